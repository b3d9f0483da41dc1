theorem s_rem2 {x y : Int32} {a b : Int} (hx : x.toInt = a) (hy : y.toInt = b) (h1 : 0 ≤ a) (h2 : 0 < b) : ∃ z, x - x / y * y = z ∧ z.toInt = a % b := by
  have h0 := s_rng x
  have h3 : 0 ≤ a / b := Int.ediv_nonneg h1 (Int.le_of_lt h2)
  have h4 : a / b ≤ a := Int.ediv_le_self b h1
  have h5 : a % b + b * (a / b) = a := Int.emod_add_mul_ediv a b
  have h6 : 0 ≤ a % b := Int.emod_nonneg a (by omega)
  have h7 : b * (a / b) = a / b * b := Int.mul_comm _ _
  have h8 : 0 ≤ a / b * b := Int.mul_nonneg h3 (Int.le_of_lt h2)
  obtain ⟨u, eu, hu⟩ := s_div hx hy h1 h2 (by omega)
  obtain ⟨v, ev, hv⟩ := s_mul hu hy (by omega) (by omega)
  obtain ⟨z, ez, hz⟩ := s_sub hx hv (by omega) (by omega)
  exact ⟨z, by rw [eu, ev, ez], by rw [hz]; omega⟩
theorem up2_o (i : Nat → Nat → Int32) {n k a b : Nat} (v : Int32) (h : ¬ (a = n ∧ b = k)) : up2 i n k v a b = i a b := by
  by_cases ha : a = n
  · subst ha
    exact up2_k i v (fun q => h ⟨rfl, q⟩)
  · exact congrFun (up2_n i v ha) b
theorem dX10_begin_0 : decode cX10_begin 0 = .ok (.aload_n 0, 1) := by decide +kernel
theorem dX10_begin_1 : decode cX10_begin 1 = .ok (.iload_n 1, 1) := by decide +kernel
theorem dX10_begin_2 : decode cX10_begin 2 = .ok (.putfield 15, 3) := by decide +kernel
theorem dX10_begin_5 : decode cX10_begin 5 = .ok (.aload_n 0, 1) := by decide +kernel
theorem dX10_begin_6 : decode cX10_begin 6 = .ok (.iconst 0, 1) := by decide +kernel
theorem dX10_begin_7 : decode cX10_begin 7 = .ok (.putfield 18, 3) := by decide +kernel
theorem dX10_begin_10 : decode cX10_begin 10 = .ok (.aload_n 0, 1) := by decide +kernel
theorem dX10_begin_11 : decode cX10_begin 11 = .ok (.iconst 0, 1) := by decide +kernel
theorem dX10_begin_12 : decode cX10_begin 12 = .ok (.putfield 21, 3) := by decide +kernel
theorem dX10_begin_15 : decode cX10_begin 15 = .ok (.aload_n 0, 1) := by decide +kernel
theorem dX10_begin_16 : decode cX10_begin 16 = .ok (.iconst 0, 1) := by decide +kernel
theorem dX10_begin_17 : decode cX10_begin 17 = .ok (.putfield 24, 3) := by decide +kernel
theorem dX10_begin_20 : decode cX10_begin 20 = .ok (.aload_n 0, 1) := by decide +kernel
theorem dX10_begin_21 : decode cX10_begin 21 = .ok (.dconst 0, 1) := by decide +kernel
theorem dX10_begin_22 : decode cX10_begin 22 = .ok (.putfield 27, 3) := by decide +kernel
theorem dX10_begin_25 : decode cX10_begin 25 = .ok (.return_, 1) := by decide +kernel
theorem dX10_enter_0 : decode cX10_enter 0 = .ok (.aload_n 0, 1) := by decide +kernel
theorem dX10_enter_1 : decode cX10_enter 1 = .ok (.iload_n 1, 1) := by decide +kernel
theorem dX10_enter_2 : decode cX10_enter 2 = .ok (.putfield 18, 3) := by decide +kernel
theorem dX10_enter_5 : decode cX10_enter 5 = .ok (.aload_n 0, 1) := by decide +kernel
theorem dX10_enter_6 : decode cX10_enter 6 = .ok (.iload_n 2, 1) := by decide +kernel
theorem dX10_enter_7 : decode cX10_enter 7 = .ok (.putfield 21, 3) := by decide +kernel
theorem dX10_enter_10 : decode cX10_enter 10 = .ok (.return_, 1) := by decide +kernel
theorem dX10_note_0 : decode cX10_note 0 = .ok (.aload_n 0, 1) := by decide +kernel
theorem dX10_note_1 : decode cX10_note 1 = .ok (.aload_n 0, 1) := by decide +kernel
theorem dX10_note_2 : decode cX10_note 2 = .ok (.getfield 24, 3) := by decide +kernel
theorem dX10_note_5 : decode cX10_note 5 = .ok (.iload_n 1, 1) := by decide +kernel
theorem dX10_note_6 : decode cX10_note 6 = .ok (.invokestatic 31, 3) := by decide +kernel
theorem dX10_note_9 : decode cX10_note 9 = .ok (.putfield 24, 3) := by decide +kernel
theorem dX10_note_12 : decode cX10_note 12 = .ok (.return_, 1) := by decide +kernel
theorem dX7_tell_0 : decode cX7_tell 0 = .ok (.aload_n 0, 1) := by decide +kernel
theorem dX7_tell_1 : decode cX7_tell 1 = .ok (.getfield 75, 3) := by decide +kernel
theorem dX7_tell_4 : decode cX7_tell 4 = .ok (.bipush 64, 2) := by decide +kernel
theorem dX7_tell_6 : decode cX7_tell 6 = .ok (.irem, 1) := by decide +kernel
theorem dX7_tell_7 : decode cX7_tell 7 = .ok (.iconst 4, 1) := by decide +kernel
theorem dX7_tell_8 : decode cX7_tell 8 = .ok (.imul, 1) := by decide +kernel
theorem dX7_tell_9 : decode cX7_tell 9 = .ok (.istore 5, 2) := by decide +kernel
theorem dX7_tell_11 : decode cX7_tell 11 = .ok (.aload_n 0, 1) := by decide +kernel
theorem dX7_tell_12 : decode cX7_tell 12 = .ok (.getfield 26, 3) := by decide +kernel
theorem dX7_tell_15 : decode cX7_tell 15 = .ok (.iload 5, 2) := by decide +kernel
theorem dX7_tell_17 : decode cX7_tell 17 = .ok (.iload_n 1, 1) := by decide +kernel
theorem dX7_tell_18 : decode cX7_tell 18 = .ok (.iastore, 1) := by decide +kernel
theorem dX7_tell_19 : decode cX7_tell 19 = .ok (.aload_n 0, 1) := by decide +kernel
theorem dX7_tell_20 : decode cX7_tell 20 = .ok (.getfield 26, 3) := by decide +kernel
theorem dX7_tell_23 : decode cX7_tell 23 = .ok (.iload 5, 2) := by decide +kernel
theorem dX7_tell_25 : decode cX7_tell 25 = .ok (.iconst 1, 1) := by decide +kernel
theorem dX7_tell_26 : decode cX7_tell 26 = .ok (.iadd, 1) := by decide +kernel
theorem dX7_tell_27 : decode cX7_tell 27 = .ok (.iload_n 2, 1) := by decide +kernel
theorem dX7_tell_28 : decode cX7_tell 28 = .ok (.iastore, 1) := by decide +kernel
theorem dX7_tell_29 : decode cX7_tell 29 = .ok (.aload_n 0, 1) := by decide +kernel
theorem dX7_tell_30 : decode cX7_tell 30 = .ok (.getfield 26, 3) := by decide +kernel
theorem dX7_tell_33 : decode cX7_tell 33 = .ok (.iload 5, 2) := by decide +kernel
theorem dX7_tell_35 : decode cX7_tell 35 = .ok (.iconst 2, 1) := by decide +kernel
theorem dX7_tell_36 : decode cX7_tell 36 = .ok (.iadd, 1) := by decide +kernel
theorem dX7_tell_37 : decode cX7_tell 37 = .ok (.iload_n 3, 1) := by decide +kernel
theorem dX7_tell_38 : decode cX7_tell 38 = .ok (.iastore, 1) := by decide +kernel
theorem dX7_tell_39 : decode cX7_tell 39 = .ok (.aload_n 0, 1) := by decide +kernel
theorem dX7_tell_40 : decode cX7_tell 40 = .ok (.getfield 26, 3) := by decide +kernel
theorem dX7_tell_43 : decode cX7_tell 43 = .ok (.iload 5, 2) := by decide +kernel
theorem dX7_tell_45 : decode cX7_tell 45 = .ok (.iconst 3, 1) := by decide +kernel
theorem dX7_tell_46 : decode cX7_tell 46 = .ok (.iadd, 1) := by decide +kernel
theorem dX7_tell_47 : decode cX7_tell 47 = .ok (.iload 4, 2) := by decide +kernel
theorem dX7_tell_49 : decode cX7_tell 49 = .ok (.iastore, 1) := by decide +kernel
theorem dX7_tell_50 : decode cX7_tell 50 = .ok (.aload_n 0, 1) := by decide +kernel
theorem dX7_tell_51 : decode cX7_tell 51 = .ok (.dup, 1) := by decide +kernel
theorem dX7_tell_52 : decode cX7_tell 52 = .ok (.getfield 75, 3) := by decide +kernel
theorem dX7_tell_55 : decode cX7_tell 55 = .ok (.iconst 1, 1) := by decide +kernel
theorem dX7_tell_56 : decode cX7_tell 56 = .ok (.iadd, 1) := by decide +kernel
theorem dX7_tell_57 : decode cX7_tell 57 = .ok (.putfield 75, 3) := by decide +kernel
theorem dX7_tell_60 : decode cX7_tell 60 = .ok (.return_, 1) := by decide +kernel
theorem dX7_told_0 : decode cX7_told 0 = .ok (.iload_n 1, 1) := by decide +kernel
theorem dX7_told_1 : decode cX7_told 1 = .ok (.ifCond .lt 26, 3) := by decide +kernel
theorem dX7_told_27 : decode cX7_told 27 = .ok (.iconst (-1), 1) := by decide +kernel
theorem dX7_told_28 : decode cX7_told 28 = .ok (.ireturn, 1) := by decide +kernel
theorem dX7_told_4 : decode cX7_told 4 = .ok (.iload_n 1, 1) := by decide +kernel
theorem dX7_told_5 : decode cX7_told 5 = .ok (.bipush 64, 2) := by decide +kernel
theorem dX7_told_7 : decode cX7_told 7 = .ok (.if_icmp .ge 20, 3) := by decide +kernel
theorem dX7_told_10 : decode cX7_told 10 = .ok (.iload_n 1, 1) := by decide +kernel
theorem dX7_told_11 : decode cX7_told 11 = .ok (.aload_n 0, 1) := by decide +kernel
theorem dX7_told_12 : decode cX7_told 12 = .ok (.getfield 75, 3) := by decide +kernel
theorem dX7_told_15 : decode cX7_told 15 = .ok (.if_icmp .ge 12, 3) := by decide +kernel
theorem dX7_told_18 : decode cX7_told 18 = .ok (.iload_n 2, 1) := by decide +kernel
theorem dX7_told_19 : decode cX7_told 19 = .ok (.ifCond .lt 8, 3) := by decide +kernel
theorem dX7_told_22 : decode cX7_told 22 = .ok (.iload_n 2, 1) := by decide +kernel
theorem dX7_told_23 : decode cX7_told 23 = .ok (.iconst 4, 1) := by decide +kernel
theorem dX7_told_24 : decode cX7_told 24 = .ok (.if_icmp .lt 5, 3) := by decide +kernel
theorem dX7_told_29 : decode cX7_told 29 = .ok (.aload_n 0, 1) := by decide +kernel
theorem dX7_told_30 : decode cX7_told 30 = .ok (.getfield 26, 3) := by decide +kernel
theorem dX7_told_33 : decode cX7_told 33 = .ok (.aload_n 0, 1) := by decide +kernel
theorem dX7_told_34 : decode cX7_told 34 = .ok (.getfield 75, 3) := by decide +kernel
theorem dX7_told_37 : decode cX7_told 37 = .ok (.iconst 1, 1) := by decide +kernel
theorem dX7_told_38 : decode cX7_told 38 = .ok (.isub, 1) := by decide +kernel
theorem dX7_told_39 : decode cX7_told 39 = .ok (.iload_n 1, 1) := by decide +kernel
theorem dX7_told_40 : decode cX7_told 40 = .ok (.isub, 1) := by decide +kernel
theorem dX7_told_41 : decode cX7_told 41 = .ok (.bipush 64, 2) := by decide +kernel
theorem dX7_told_43 : decode cX7_told 43 = .ok (.irem, 1) := by decide +kernel
theorem dX7_told_44 : decode cX7_told 44 = .ok (.iconst 4, 1) := by decide +kernel
theorem dX7_told_45 : decode cX7_told 45 = .ok (.imul, 1) := by decide +kernel
theorem dX7_told_46 : decode cX7_told 46 = .ok (.iload_n 2, 1) := by decide +kernel
theorem dX7_told_47 : decode cX7_told 47 = .ok (.iadd, 1) := by decide +kernel
theorem dX7_told_48 : decode cX7_told 48 = .ok (.iaload, 1) := by decide +kernel
theorem dX7_told_49 : decode cX7_told 49 = .ok (.ireturn, 1) := by decide +kernel
theorem dX7_enqueue_0 : decode cX7_enqueue 0 = .ok (.aload_n 0, 1) := by decide +kernel
theorem dX7_enqueue_1 : decode cX7_enqueue 1 = .ok (.getfield 36, 3) := by decide +kernel
theorem dX7_enqueue_4 : decode cX7_enqueue 4 = .ok (.aload_n 0, 1) := by decide +kernel
theorem dX7_enqueue_5 : decode cX7_enqueue 5 = .ok (.getfield 22, 3) := by decide +kernel
theorem dX7_enqueue_8 : decode cX7_enqueue 8 = .ok (.arraylength, 1) := by decide +kernel
theorem dX7_enqueue_9 : decode cX7_enqueue 9 = .ok (.if_icmp .ge 23, 3) := by decide +kernel
theorem dX7_enqueue_12 : decode cX7_enqueue 12 = .ok (.aload_n 0, 1) := by decide +kernel
theorem dX7_enqueue_13 : decode cX7_enqueue 13 = .ok (.getfield 22, 3) := by decide +kernel
theorem dX7_enqueue_16 : decode cX7_enqueue 16 = .ok (.aload_n 0, 1) := by decide +kernel
theorem dX7_enqueue_17 : decode cX7_enqueue 17 = .ok (.getfield 36, 3) := by decide +kernel
theorem dX7_enqueue_20 : decode cX7_enqueue 20 = .ok (.iload_n 1, 1) := by decide +kernel
theorem dX7_enqueue_21 : decode cX7_enqueue 21 = .ok (.iastore, 1) := by decide +kernel
theorem dX7_enqueue_22 : decode cX7_enqueue 22 = .ok (.aload_n 0, 1) := by decide +kernel
theorem dX7_enqueue_23 : decode cX7_enqueue 23 = .ok (.dup, 1) := by decide +kernel
theorem dX7_enqueue_24 : decode cX7_enqueue 24 = .ok (.getfield 36, 3) := by decide +kernel
theorem dX7_enqueue_27 : decode cX7_enqueue 27 = .ok (.iconst 1, 1) := by decide +kernel
theorem dX7_enqueue_28 : decode cX7_enqueue 28 = .ok (.iadd, 1) := by decide +kernel
theorem dX7_enqueue_29 : decode cX7_enqueue 29 = .ok (.putfield 36, 3) := by decide +kernel
theorem dX7_enqueue_32 : decode cX7_enqueue 32 = .ok (.return_, 1) := by decide +kernel
theorem dX7_clear_0 : decode cX7_clear 0 = .ok (.aload_n 0, 1) := by decide +kernel
theorem dX7_clear_1 : decode cX7_clear 1 = .ok (.iload_n 1, 1) := by decide +kernel
theorem dX7_clear_2 : decode cX7_clear 2 = .ok (.putfield 29, 3) := by decide +kernel
theorem dX7_clear_5 : decode cX7_clear 5 = .ok (.aload_n 0, 1) := by decide +kernel
theorem dX7_clear_6 : decode cX7_clear 6 = .ok (.iconst 0, 1) := by decide +kernel
theorem dX7_clear_7 : decode cX7_clear 7 = .ok (.putfield 33, 3) := by decide +kernel
theorem dX7_clear_10 : decode cX7_clear 10 = .ok (.aload_n 0, 1) := by decide +kernel
theorem dX7_clear_11 : decode cX7_clear 11 = .ok (.iconst 0, 1) := by decide +kernel
theorem dX7_clear_12 : decode cX7_clear 12 = .ok (.putfield 36, 3) := by decide +kernel
theorem dX7_clear_15 : decode cX7_clear 15 = .ok (.aload_n 0, 1) := by decide +kernel
theorem dX7_clear_16 : decode cX7_clear 16 = .ok (.iconst 0, 1) := by decide +kernel
theorem dX7_clear_17 : decode cX7_clear 17 = .ok (.putfield 39, 3) := by decide +kernel
theorem dX7_clear_20 : decode cX7_clear 20 = .ok (.aload_n 0, 1) := by decide +kernel
theorem dX7_clear_21 : decode cX7_clear 21 = .ok (.iconst 0, 1) := by decide +kernel
theorem dX7_clear_22 : decode cX7_clear 22 = .ok (.putfield 42, 3) := by decide +kernel
theorem dX7_clear_25 : decode cX7_clear 25 = .ok (.aload_n 0, 1) := by decide +kernel
theorem dX7_clear_26 : decode cX7_clear 26 = .ok (.iconst 0, 1) := by decide +kernel
theorem dX7_clear_27 : decode cX7_clear 27 = .ok (.putfield 45, 3) := by decide +kernel
theorem dX7_clear_30 : decode cX7_clear 30 = .ok (.aload_n 0, 1) := by decide +kernel
theorem dX7_clear_31 : decode cX7_clear 31 = .ok (.iconst 1, 1) := by decide +kernel
theorem dX7_clear_32 : decode cX7_clear 32 = .ok (.putfield 48, 3) := by decide +kernel
theorem dX7_clear_35 : decode cX7_clear 35 = .ok (.iconst 0, 1) := by decide +kernel
theorem dX7_clear_36 : decode cX7_clear 36 = .ok (.istore_n 2, 1) := by decide +kernel
theorem dX7_clear_37 : decode cX7_clear 37 = .ok (.iload_n 2, 1) := by decide +kernel
theorem dX7_clear_38 : decode cX7_clear 38 = .ok (.aload_n 0, 1) := by decide +kernel
theorem dX7_clear_39 : decode cX7_clear 39 = .ok (.getfield 11, 3) := by decide +kernel
theorem dX7_clear_42 : decode cX7_clear 42 = .ok (.arraylength, 1) := by decide +kernel
theorem dX7_clear_43 : decode cX7_clear 43 = .ok (.if_icmp .ge 19, 3) := by decide +kernel
theorem dX7_clear_62 : decode cX7_clear 62 = .ok (.return_, 1) := by decide +kernel
theorem dX7_clear_46 : decode cX7_clear 46 = .ok (.aload_n 0, 1) := by decide +kernel
theorem dX7_clear_47 : decode cX7_clear 47 = .ok (.getfield 11, 3) := by decide +kernel
theorem dX7_clear_50 : decode cX7_clear 50 = .ok (.iload_n 2, 1) := by decide +kernel
theorem dX7_clear_51 : decode cX7_clear 51 = .ok (.aaload, 1) := by decide +kernel
theorem dX7_clear_52 : decode cX7_clear 52 = .ok (.iconst 0, 1) := by decide +kernel
theorem dX7_clear_53 : decode cX7_clear 53 = .ok (.putfield 52, 3) := by decide +kernel
theorem dX7_clear_56 : decode cX7_clear 56 = .ok (.iinc 2 1, 3) := by decide +kernel
theorem dX7_clear_59 : decode cX7_clear 59 = .ok (.goto (-22), 3) := by decide +kernel
theorem dX7_takeTurn_0 : decode cX7_takeTurn 0 = .ok (.iconst 0, 1) := by decide +kernel
theorem dX7_takeTurn_1 : decode cX7_takeTurn 1 = .ok (.istore_n 1, 1) := by decide +kernel
theorem dX7_takeTurn_2 : decode cX7_takeTurn 2 = .ok (.iload_n 1, 1) := by decide +kernel
theorem dX7_takeTurn_3 : decode cX7_takeTurn 3 = .ok (.aload_n 0, 1) := by decide +kernel
theorem dX7_takeTurn_4 : decode cX7_takeTurn 4 = .ok (.getfield 29, 3) := by decide +kernel
theorem dX7_takeTurn_7 : decode cX7_takeTurn 7 = .ok (.if_icmp .ge 66, 3) := by decide +kernel
theorem dX7_takeTurn_10 : decode cX7_takeTurn 10 = .ok (.aload_n 0, 1) := by decide +kernel
theorem dX7_takeTurn_11 : decode cX7_takeTurn 11 = .ok (.getfield 33, 3) := by decide +kernel
theorem dX7_takeTurn_14 : decode cX7_takeTurn 14 = .ok (.istore_n 2, 1) := by decide +kernel
theorem dX7_takeTurn_15 : decode cX7_takeTurn 15 = .ok (.aload_n 0, 1) := by decide +kernel
theorem dX7_takeTurn_16 : decode cX7_takeTurn 16 = .ok (.aload_n 0, 1) := by decide +kernel
theorem dX7_takeTurn_17 : decode cX7_takeTurn 17 = .ok (.getfield 33, 3) := by decide +kernel
theorem dX7_takeTurn_20 : decode cX7_takeTurn 20 = .ok (.iconst 1, 1) := by decide +kernel
theorem dX7_takeTurn_21 : decode cX7_takeTurn 21 = .ok (.iadd, 1) := by decide +kernel
theorem dX7_takeTurn_22 : decode cX7_takeTurn 22 = .ok (.aload_n 0, 1) := by decide +kernel
theorem dX7_takeTurn_23 : decode cX7_takeTurn 23 = .ok (.getfield 29, 3) := by decide +kernel
theorem dX7_takeTurn_26 : decode cX7_takeTurn 26 = .ok (.if_icmp .ge 12, 3) := by decide +kernel
theorem dX7_takeTurn_38 : decode cX7_takeTurn 38 = .ok (.iconst 0, 1) := by decide +kernel
theorem dX7_takeTurn_39 : decode cX7_takeTurn 39 = .ok (.putfield 33, 3) := by decide +kernel
theorem dX7_takeTurn_42 : decode cX7_takeTurn 42 = .ok (.aload_n 0, 1) := by decide +kernel
theorem dX7_takeTurn_43 : decode cX7_takeTurn 43 = .ok (.getfield 11, 3) := by decide +kernel
theorem dX7_takeTurn_46 : decode cX7_takeTurn 46 = .ok (.iload_n 2, 1) := by decide +kernel
theorem dX7_takeTurn_47 : decode cX7_takeTurn 47 = .ok (.aaload, 1) := by decide +kernel
theorem dX7_takeTurn_48 : decode cX7_takeTurn 48 = .ok (.getfield 55, 3) := by decide +kernel
theorem dX7_takeTurn_51 : decode cX7_takeTurn 51 = .ok (.ifCond .ge 14, 3) := by decide +kernel
theorem dX7_takeTurn_65 : decode cX7_takeTurn 65 = .ok (.iload_n 2, 1) := by decide +kernel
theorem dX7_takeTurn_66 : decode cX7_takeTurn 66 = .ok (.ireturn, 1) := by decide +kernel
theorem dX7_takeTurn_54 : decode cX7_takeTurn 54 = .ok (.aload_n 0, 1) := by decide +kernel
theorem dX7_takeTurn_55 : decode cX7_takeTurn 55 = .ok (.getfield 39, 3) := by decide +kernel
theorem dX7_takeTurn_58 : decode cX7_takeTurn 58 = .ok (.aload_n 0, 1) := by decide +kernel
theorem dX7_takeTurn_59 : decode cX7_takeTurn 59 = .ok (.getfield 36, 3) := by decide +kernel
theorem dX7_takeTurn_62 : decode cX7_takeTurn 62 = .ok (.if_icmp .ge 5, 3) := by decide +kernel
theorem dX7_takeTurn_67 : decode cX7_takeTurn 67 = .ok (.iinc 1 1, 3) := by decide +kernel
theorem dX7_takeTurn_70 : decode cX7_takeTurn 70 = .ok (.goto (-68), 3) := by decide +kernel
theorem dX7_takeTurn_73 : decode cX7_takeTurn 73 = .ok (.aload_n 0, 1) := by decide +kernel
theorem dX7_takeTurn_74 : decode cX7_takeTurn 74 = .ok (.getfield 33, 3) := by decide +kernel
theorem dX7_takeTurn_77 : decode cX7_takeTurn 77 = .ok (.ireturn, 1) := by decide +kernel
theorem dX7_takeTurn_29 : decode cX7_takeTurn 29 = .ok (.aload_n 0, 1) := by decide +kernel
theorem dX7_takeTurn_30 : decode cX7_takeTurn 30 = .ok (.getfield 33, 3) := by decide +kernel
theorem dX7_takeTurn_33 : decode cX7_takeTurn 33 = .ok (.iconst 1, 1) := by decide +kernel
theorem dX7_takeTurn_34 : decode cX7_takeTurn 34 = .ok (.iadd, 1) := by decide +kernel
theorem dX7_takeTurn_35 : decode cX7_takeTurn 35 = .ok (.goto 4, 3) := by decide +kernel
theorem dX7_takeCase_0 : decode cX7_takeCase 0 = .ok (.aload_n 0, 1) := by decide +kernel
theorem dX7_takeCase_1 : decode cX7_takeCase 1 = .ok (.getfield 39, 3) := by decide +kernel
theorem dX7_takeCase_4 : decode cX7_takeCase 4 = .ok (.aload_n 0, 1) := by decide +kernel
theorem dX7_takeCase_5 : decode cX7_takeCase 5 = .ok (.getfield 36, 3) := by decide +kernel
theorem dX7_takeCase_8 : decode cX7_takeCase 8 = .ok (.if_icmp .ge 40, 3) := by decide +kernel
theorem dX7_takeCase_11 : decode cX7_takeCase 11 = .ok (.aload_n 1, 1) := by decide +kernel
theorem dX7_takeCase_12 : decode cX7_takeCase 12 = .ok (.aload_n 0, 1) := by decide +kernel
theorem dX7_takeCase_13 : decode cX7_takeCase 13 = .ok (.getfield 22, 3) := by decide +kernel
theorem dX7_takeCase_16 : decode cX7_takeCase 16 = .ok (.aload_n 0, 1) := by decide +kernel
theorem dX7_takeCase_17 : decode cX7_takeCase 17 = .ok (.getfield 39, 3) := by decide +kernel
theorem dX7_takeCase_20 : decode cX7_takeCase 20 = .ok (.iaload, 1) := by decide +kernel
theorem dX7_takeCase_21 : decode cX7_takeCase 21 = .ok (.invokevirtual 58, 3) := by decide +kernel
theorem dX7_takeCase_24 : decode cX7_takeCase 24 = .ok (.aload_n 0, 1) := by decide +kernel
theorem dX7_takeCase_25 : decode cX7_takeCase 25 = .ok (.dup, 1) := by decide +kernel
theorem dX7_takeCase_26 : decode cX7_takeCase 26 = .ok (.getfield 39, 3) := by decide +kernel
theorem dX7_takeCase_29 : decode cX7_takeCase 29 = .ok (.iconst 1, 1) := by decide +kernel
theorem dX7_takeCase_30 : decode cX7_takeCase 30 = .ok (.iadd, 1) := by decide +kernel
theorem dX7_takeCase_31 : decode cX7_takeCase 31 = .ok (.putfield 39, 3) := by decide +kernel
theorem dX7_takeCase_34 : decode cX7_takeCase 34 = .ok (.aload_n 0, 1) := by decide +kernel
theorem dX7_takeCase_35 : decode cX7_takeCase 35 = .ok (.iconst 1, 1) := by decide +kernel
theorem dX7_takeCase_36 : decode cX7_takeCase 36 = .ok (.aload_n 1, 1) := by decide +kernel
theorem dX7_takeCase_37 : decode cX7_takeCase 37 = .ok (.getfield 55, 3) := by decide +kernel
theorem dX7_takeCase_40 : decode cX7_takeCase 40 = .ok (.aload_n 1, 1) := by decide +kernel
theorem dX7_takeCase_41 : decode cX7_takeCase 41 = .ok (.getfield 61, 3) := by decide +kernel
theorem dX7_takeCase_44 : decode cX7_takeCase 44 = .ok (.iconst 0, 1) := by decide +kernel
theorem dX7_takeCase_45 : decode cX7_takeCase 45 = .ok (.invokevirtual 64, 3) := by decide +kernel
theorem dX7_takeCase_48 : decode cX7_takeCase 48 = .ok (.return_, 1) := by decide +kernel
theorem dX7_finishCase_0 : decode cX7_finishCase 0 = .ok (.aload_n 0, 1) := by decide +kernel
theorem dX7_finishCase_1 : decode cX7_finishCase 1 = .ok (.iconst 4, 1) := by decide +kernel
theorem dX7_finishCase_2 : decode cX7_finishCase 2 = .ok (.aload_n 1, 1) := by decide +kernel
theorem dX7_finishCase_3 : decode cX7_finishCase 3 = .ok (.getfield 55, 3) := by decide +kernel
theorem dX7_finishCase_6 : decode cX7_finishCase 6 = .ok (.aload_n 1, 1) := by decide +kernel
theorem dX7_finishCase_7 : decode cX7_finishCase 7 = .ok (.getfield 68, 3) := by decide +kernel
theorem dX7_finishCase_10 : decode cX7_finishCase 10 = .ok (.aload_n 1, 1) := by decide +kernel
theorem dX7_finishCase_11 : decode cX7_finishCase 11 = .ok (.getfield 61, 3) := by decide +kernel
theorem dX7_finishCase_14 : decode cX7_finishCase 14 = .ok (.invokevirtual 64, 3) := by decide +kernel
theorem dX7_finishCase_17 : decode cX7_finishCase 17 = .ok (.aload_n 0, 1) := by decide +kernel
theorem dX7_finishCase_18 : decode cX7_finishCase 18 = .ok (.aload_n 0, 1) := by decide +kernel
theorem dX7_finishCase_19 : decode cX7_finishCase 19 = .ok (.getfield 45, 3) := by decide +kernel
theorem dX7_finishCase_22 : decode cX7_finishCase 22 = .ok (.aload_n 1, 1) := by decide +kernel
theorem dX7_finishCase_23 : decode cX7_finishCase 23 = .ok (.getfield 68, 3) := by decide +kernel
theorem dX7_finishCase_26 : decode cX7_finishCase 26 = .ok (.invokestatic 69, 3) := by decide +kernel
theorem dX7_finishCase_29 : decode cX7_finishCase 29 = .ok (.putfield 45, 3) := by decide +kernel
theorem dX7_finishCase_32 : decode cX7_finishCase 32 = .ok (.aload_n 1, 1) := by decide +kernel
theorem dX7_finishCase_33 : decode cX7_finishCase 33 = .ok (.iconst (-1), 1) := by decide +kernel
theorem dX7_finishCase_34 : decode cX7_finishCase 34 = .ok (.putfield 55, 3) := by decide +kernel
theorem dX7_finishCase_37 : decode cX7_finishCase 37 = .ok (.aload_n 0, 1) := by decide +kernel
theorem dX7_finishCase_38 : decode cX7_finishCase 38 = .ok (.dup, 1) := by decide +kernel
theorem dX7_finishCase_39 : decode cX7_finishCase 39 = .ok (.getfield 42, 3) := by decide +kernel
theorem dX7_finishCase_42 : decode cX7_finishCase 42 = .ok (.iconst 1, 1) := by decide +kernel
theorem dX7_finishCase_43 : decode cX7_finishCase 43 = .ok (.iadd, 1) := by decide +kernel
theorem dX7_finishCase_44 : decode cX7_finishCase 44 = .ok (.putfield 42, 3) := by decide +kernel
theorem dX7_finishCase_47 : decode cX7_finishCase 47 = .ok (.return_, 1) := by decide +kernel
theorem dX7_endIfNothingIsLeft_0 : decode cX7_endIfNothingIsLeft 0 = .ok (.aload_n 0, 1) := by decide +kernel
theorem dX7_endIfNothingIsLeft_1 : decode cX7_endIfNothingIsLeft 1 = .ok (.getfield 42, 3) := by decide +kernel
theorem dX7_endIfNothingIsLeft_4 : decode cX7_endIfNothingIsLeft 4 = .ok (.aload_n 0, 1) := by decide +kernel
theorem dX7_endIfNothingIsLeft_5 : decode cX7_endIfNothingIsLeft 5 = .ok (.getfield 36, 3) := by decide +kernel
theorem dX7_endIfNothingIsLeft_8 : decode cX7_endIfNothingIsLeft 8 = .ok (.if_icmp .ge 4, 3) := by decide +kernel
theorem dX7_endIfNothingIsLeft_12 : decode cX7_endIfNothingIsLeft 12 = .ok (.iconst 0, 1) := by decide +kernel
theorem dX7_endIfNothingIsLeft_13 : decode cX7_endIfNothingIsLeft 13 = .ok (.istore_n 1, 1) := by decide +kernel
theorem dX7_endIfNothingIsLeft_14 : decode cX7_endIfNothingIsLeft 14 = .ok (.iconst 0, 1) := by decide +kernel
theorem dX7_endIfNothingIsLeft_15 : decode cX7_endIfNothingIsLeft 15 = .ok (.istore_n 2, 1) := by decide +kernel
theorem dX7_endIfNothingIsLeft_16 : decode cX7_endIfNothingIsLeft 16 = .ok (.iload_n 2, 1) := by decide +kernel
theorem dX7_endIfNothingIsLeft_17 : decode cX7_endIfNothingIsLeft 17 = .ok (.aload_n 0, 1) := by decide +kernel
theorem dX7_endIfNothingIsLeft_18 : decode cX7_endIfNothingIsLeft 18 = .ok (.getfield 11, 3) := by decide +kernel
theorem dX7_endIfNothingIsLeft_21 : decode cX7_endIfNothingIsLeft 21 = .ok (.arraylength, 1) := by decide +kernel
theorem dX7_endIfNothingIsLeft_22 : decode cX7_endIfNothingIsLeft 22 = .ok (.if_icmp .ge 21, 3) := by decide +kernel
theorem dX7_endIfNothingIsLeft_43 : decode cX7_endIfNothingIsLeft 43 = .ok (.aload_n 0, 1) := by decide +kernel
theorem dX7_endIfNothingIsLeft_44 : decode cX7_endIfNothingIsLeft 44 = .ok (.iconst 0, 1) := by decide +kernel
theorem dX7_endIfNothingIsLeft_45 : decode cX7_endIfNothingIsLeft 45 = .ok (.putfield 48, 3) := by decide +kernel
theorem dX7_endIfNothingIsLeft_48 : decode cX7_endIfNothingIsLeft 48 = .ok (.aload_n 0, 1) := by decide +kernel
theorem dX7_endIfNothingIsLeft_49 : decode cX7_endIfNothingIsLeft 49 = .ok (.iconst 5, 1) := by decide +kernel
theorem dX7_endIfNothingIsLeft_50 : decode cX7_endIfNothingIsLeft 50 = .ok (.aload_n 0, 1) := by decide +kernel
theorem dX7_endIfNothingIsLeft_51 : decode cX7_endIfNothingIsLeft 51 = .ok (.getfield 45, 3) := by decide +kernel
theorem dX7_endIfNothingIsLeft_54 : decode cX7_endIfNothingIsLeft 54 = .ok (.iload_n 1, 1) := by decide +kernel
theorem dX7_endIfNothingIsLeft_55 : decode cX7_endIfNothingIsLeft 55 = .ok (.iconst 0, 1) := by decide +kernel
theorem dX7_endIfNothingIsLeft_56 : decode cX7_endIfNothingIsLeft 56 = .ok (.invokevirtual 64, 3) := by decide +kernel
theorem dX7_endIfNothingIsLeft_59 : decode cX7_endIfNothingIsLeft 59 = .ok (.return_, 1) := by decide +kernel
theorem dX7_endIfNothingIsLeft_25 : decode cX7_endIfNothingIsLeft 25 = .ok (.iload_n 1, 1) := by decide +kernel
theorem dX7_endIfNothingIsLeft_26 : decode cX7_endIfNothingIsLeft 26 = .ok (.aload_n 0, 1) := by decide +kernel
theorem dX7_endIfNothingIsLeft_27 : decode cX7_endIfNothingIsLeft 27 = .ok (.getfield 11, 3) := by decide +kernel
theorem dX7_endIfNothingIsLeft_30 : decode cX7_endIfNothingIsLeft 30 = .ok (.iload_n 2, 1) := by decide +kernel
theorem dX7_endIfNothingIsLeft_31 : decode cX7_endIfNothingIsLeft 31 = .ok (.aaload, 1) := by decide +kernel
theorem dX7_endIfNothingIsLeft_32 : decode cX7_endIfNothingIsLeft 32 = .ok (.getfield 52, 3) := by decide +kernel
theorem dX7_endIfNothingIsLeft_35 : decode cX7_endIfNothingIsLeft 35 = .ok (.iadd, 1) := by decide +kernel
theorem dX7_endIfNothingIsLeft_36 : decode cX7_endIfNothingIsLeft 36 = .ok (.istore_n 1, 1) := by decide +kernel
theorem dX7_endIfNothingIsLeft_37 : decode cX7_endIfNothingIsLeft 37 = .ok (.iinc 2 1, 3) := by decide +kernel
theorem dX7_endIfNothingIsLeft_40 : decode cX7_endIfNothingIsLeft 40 = .ok (.goto (-24), 3) := by decide +kernel
theorem dX7_endIfNothingIsLeft_11 : decode cX7_endIfNothingIsLeft 11 = .ok (.return_, 1) := by decide +kernel
theorem gw_X10_begin : wsX10_begin.all goodWord = true := by decide +kernel
theorem gX7_takeCase_X10_begin : GoodIn wsX7_takeCase (wsV RX7 58 RX10 yX10_begin wsX10_begin) := goodIn_app (goodIn_sub (List.forall_mem_cons.mpr ⟨(List.mem_cons_of_mem _ (List.mem_append_left _ (List.mem_append_left _ lm5))), List.forall_mem_cons.mpr ⟨(List.mem_cons_of_mem _ (List.mem_append_left _ (List.mem_append_left _ lm6))), List.forall_mem_cons.mpr ⟨(List.mem_cons_of_mem _ (List.mem_append_left _ (List.mem_append_left _ lm7))), List.forall_mem_cons.mpr ⟨(List.mem_cons_of_mem _ (List.mem_append_left _ (List.mem_append_left _ lm8))), (fun _ h => absurd h List.not_mem_nil)⟩⟩⟩⟩) (by decide +kernel)) (goodIn_sub (by unfold wsX10_begin; exact List.forall_mem_cons.mpr ⟨(List.mem_cons_of_mem _ (List.mem_append_left _ (List.mem_append_left _ lm9))), List.forall_mem_append.mpr ⟨List.forall_mem_cons.mpr ⟨(List.mem_cons_of_mem _ (List.mem_append_left _ (List.mem_append_left _ lm10))), List.forall_mem_cons.mpr ⟨(List.mem_cons_of_mem _ (List.mem_append_left _ (List.mem_append_left _ lm11))), List.forall_mem_cons.mpr ⟨(List.mem_cons_of_mem _ (List.mem_append_left _ (List.mem_append_left _ lm12))), List.forall_mem_cons.mpr ⟨(List.mem_cons_of_mem _ (List.mem_append_left _ (List.mem_append_left _ lm13))), List.forall_mem_cons.mpr ⟨(List.mem_cons_of_mem _ (List.mem_append_left _ (List.mem_append_left _ lm14))), (fun _ h => absurd h List.not_mem_nil)⟩⟩⟩⟩⟩, (fun _ h => (List.mem_cons_of_mem _ (List.mem_append_right _ h)))⟩⟩) gw_X10_begin)
theorem gw_X7_tell : wsX7_tell.all goodWord = true := by decide +kernel
theorem gX7_takeCase_X7_tell : GoodIn wsX7_takeCase (wsV RX7 64 RX7 yX7_tell wsX7_tell) := goodIn_app (goodIn_sub (List.forall_mem_cons.mpr ⟨(List.mem_cons_of_mem _ (List.mem_append_left _ (List.mem_append_left _ lm15))), List.forall_mem_cons.mpr ⟨(List.mem_cons_of_mem _ (List.mem_append_left _ (List.mem_append_left _ lm16))), List.forall_mem_cons.mpr ⟨(List.mem_cons_of_mem _ (List.mem_append_left _ (List.mem_append_left _ lm17))), List.forall_mem_cons.mpr ⟨(List.mem_cons_of_mem _ (List.mem_append_left _ (List.mem_append_left _ lm18))), (fun _ h => absurd h List.not_mem_nil)⟩⟩⟩⟩) (by decide +kernel)) (goodIn_sub (by unfold wsX7_tell; exact List.forall_mem_cons.mpr ⟨(List.mem_cons_of_mem _ (List.mem_append_left _ (List.mem_append_left _ lm19))), List.forall_mem_append.mpr ⟨List.forall_mem_cons.mpr ⟨(List.mem_cons_of_mem _ (List.mem_append_left _ (List.mem_append_left _ lm20))), List.forall_mem_cons.mpr ⟨(List.mem_cons_of_mem _ (List.mem_append_left _ (List.mem_append_left _ lm21))), (fun _ h => absurd h List.not_mem_nil)⟩⟩, (fun _ h => (List.mem_cons_of_mem _ (List.mem_append_left _ (List.mem_append_right _ h))))⟩⟩) gw_X7_tell)
theorem gX7_finishCase_X7_tell : GoodIn wsX7_finishCase (wsV RX7 64 RX7 yX7_tell wsX7_tell) := goodIn_app (goodIn_sub (List.forall_mem_cons.mpr ⟨(List.mem_cons_of_mem _ (List.mem_append_left _ (List.mem_append_left _ lm9))), List.forall_mem_cons.mpr ⟨(List.mem_cons_of_mem _ (List.mem_append_left _ (List.mem_append_left _ lm10))), List.forall_mem_cons.mpr ⟨(List.mem_cons_of_mem _ (List.mem_append_left _ (List.mem_append_left _ lm11))), List.forall_mem_cons.mpr ⟨(List.mem_cons_of_mem _ (List.mem_append_left _ (List.mem_append_left _ lm12))), (fun _ h => absurd h List.not_mem_nil)⟩⟩⟩⟩) (by decide +kernel)) (goodIn_sub (by unfold wsX7_tell; exact List.forall_mem_cons.mpr ⟨(List.mem_cons_of_mem _ (List.mem_append_left _ (List.mem_append_left _ lm13))), List.forall_mem_append.mpr ⟨List.forall_mem_cons.mpr ⟨(List.mem_cons_of_mem _ (List.mem_append_left _ (List.mem_append_left _ lm14))), List.forall_mem_cons.mpr ⟨(List.mem_cons_of_mem _ (List.mem_append_left _ (List.mem_append_left _ lm15))), (fun _ h => absurd h List.not_mem_nil)⟩⟩, (fun _ h => (List.mem_cons_of_mem _ (List.mem_append_right _ h)))⟩⟩) gw_X7_tell)
theorem gX7_endIfNothingIsLeft_X7_tell : GoodIn wsX7_endIfNothingIsLeft (wsV RX7 64 RX7 yX7_tell wsX7_tell) := goodIn_app (goodIn_sub (List.forall_mem_cons.mpr ⟨(List.mem_cons_of_mem _ (List.mem_append_left _ (List.mem_append_left _ lm6))), List.forall_mem_cons.mpr ⟨(List.mem_cons_of_mem _ (List.mem_append_left _ (List.mem_append_left _ lm7))), List.forall_mem_cons.mpr ⟨(List.mem_cons_of_mem _ (List.mem_append_left _ (List.mem_append_left _ lm8))), List.forall_mem_cons.mpr ⟨(List.mem_cons_of_mem _ (List.mem_append_left _ (List.mem_append_left _ lm9))), (fun _ h => absurd h List.not_mem_nil)⟩⟩⟩⟩) (by decide +kernel)) (goodIn_sub (by unfold wsX7_tell; exact List.forall_mem_cons.mpr ⟨(List.mem_cons_of_mem _ (List.mem_append_left _ (List.mem_append_left _ lm10))), List.forall_mem_append.mpr ⟨List.forall_mem_cons.mpr ⟨(List.mem_cons_of_mem _ (List.mem_append_left _ (List.mem_append_left _ lm11))), List.forall_mem_cons.mpr ⟨(List.mem_cons_of_mem _ (List.mem_append_left _ (List.mem_append_left _ lm12))), (fun _ h => absurd h List.not_mem_nil)⟩⟩, (fun _ h => (List.mem_cons_of_mem _ (List.mem_append_left _ (List.mem_append_right _ h))))⟩⟩) gw_X7_tell)
set_option maxHeartbeats 2000000 in
set_option maxRecDepth 100000 in
theorem k_begin (l : Launch) (D : va_G) (g : Nat → Nat) (ka : Nat → ClassId) (ad : Nat → Nat) (i : Nat → Nat → Int32) (r : Nat → Nat → Nat) (L : Nat → Nat → Int64) (d : Nat → Nat → UInt64) (w : Nat) (x : Int32) (hO : OkI i) (hR : RS r) (sz : Nat) (hw : w < 3) (hx0 : 0 ≤ x.toInt) (hx1 : x.toInt ≤ 23) : Met l yX10_begin wsX10_begin ({ frames := 0, cells := 0, slots := 0, locals := 0 }) (va_Pc [.ref (g (25 + 1 * w)), .int x] (sj_B D (hwc g ka i r L d) (hT ka) sz (gx ad (va_A (hwc g ka i r L d) sz)))) (sj_Qv (S := (Nat → Nat → Int32) × (Nat → Nat → UInt64)) D (fun u => OkI u.1 ∧ (∀ a, ¬ (a = 25 + 1 * w) → u.1 a = i a) ∧ (∀ a, ¬ (a = 25 + 1 * w) → u.2 a = d a) ∧ ((u.1 (25 + 1 * w) 1).toInt = x.toInt ∧ (u.1 (25 + 1 * w) 2).toInt = 0 ∧ (u.1 (25 + 1 * w) 3).toInt = 0 ∧ (u.1 (25 + 1 * w) 4).toInt = 0 ∧ (u.1 (25 + 1 * w) 0).toInt = (i (25 + 1 * w) 0).toInt) ∧ (dfin (u.2 (25 + 1 * w) 5))) (fun u => hwc g ka u.1 r L u.2) (fun _ => []) (va_A (hwc g ka i r L d) sz)) 0 0 (va_A (hwc g ka i r L d) sz) := by
  refine x_met (Ex := gx ad) (cc := cX10_begin) (maxL := 2) (ret := none) (by decide) rfl (Nat.le_of_ble_eq_true rfl) ?_
  intro p e s m below meth c A ls hx hb hr hml hts hown hlocks hA hS hH hK hE hl
  have hown : s.vm.findClass RX10 = some m.cls := hown
  have in10 : ∀ w ∈ wsX100, w ∈ wsX10_begin := (fun _ h => (List.mem_cons_of_mem _ (List.mem_append_right _ h)))
  have wd0 := hts (.fieldLink RX10 15 "StoryDesk$Worker" "story" "I") (List.mem_cons_of_mem _ (List.mem_append_left _ lm0))
  have wd1 := hts (.fieldLink RX10 18 "StoryDesk$Worker" "stage" "I") (List.mem_cons_of_mem _ (List.mem_append_left _ lm1))
  have wd2 := hts (.fieldLink RX10 21 "StoryDesk$Worker" "next" "I") (List.mem_cons_of_mem _ (List.mem_append_left _ lm2))
  have wd3 := hts (.fieldLink RX10 24 "StoryDesk$Worker" "worst" "I") (List.mem_cons_of_mem _ (List.mem_append_left _ lm3))
  have wd4 := hts (.fieldLink RX10 27 "StoryDesk$Worker" "number" "D") (List.mem_cons_of_mem _ (List.mem_append_left _ lm4))
  have hl : lv_has ls 2 [(0, .ref (g (25 + 1 * w))), (1, .int x)] := hl
  have hK : va_K D vwCl (hT ka) s := hK
  refine lv_aload_n hx hb dX10_begin_0 rfl (lv_at hl 0 rfl) ?_
  refine lv_iload_n hx hb dX10_begin_1 rfl (lv_at hl 1 rfl) ?_
  have hO_1 := okp hO (n := (25 + 1 * w)) (k := 1) (v := x) (by rw [bx_wk hw 1]; exact (show (-1 : Int) ≤ (x : Int32).toInt ∧ (x : Int32).toInt ≤ 23 from ⟨by omega, by omega⟩))
  refine h_puti (ty := .int) (ci := 10) (C := RX10) (F := TX10) (N := 8) hx hb hts in10 tyX10 tyX10_ok nmX10 hown hK hH hS (lt_nK (by omega)) (kd_wk hw) (by decide) rfl 1 (by decide) wd0 (fun _ h9 => h9) rfl (by decide +kernel) rfl rfl (by decide) rfl dX10_begin_2 (fun H locs hH hS => ?_)
  refine lv_aload_n hx hb dX10_begin_5 rfl (lv_at hl 0 rfl) ?_
  refine lv_iconst (v := 0) hx hb dX10_begin_6 (by decide) ?_
  have hO_2 := okp hO_1 (n := (25 + 1 * w)) (k := 2) (v := 0) (by rw [bx_wk hw 2]; exact (show (0 : Int) ≤ (0 : Int32).toInt ∧ (0 : Int32).toInt ≤ 2 from ⟨by decide, by decide⟩))
  refine h_puti (ty := .int) (ci := 10) (C := RX10) (F := TX10) (N := 8) hx hb hts in10 tyX10 tyX10_ok nmX10 hown hK hH hS (lt_nK (by omega)) (kd_wk hw) (by decide) rfl 2 (by decide) wd1 (fun _ h9 => h9) rfl (by decide +kernel) rfl rfl (by decide) rfl dX10_begin_7 (fun H locs hH hS => ?_)
  refine lv_aload_n hx hb dX10_begin_10 rfl (lv_at hl 0 rfl) ?_
  refine lv_iconst (v := 0) hx hb dX10_begin_11 (by decide) ?_
  have hO_3 := okp hO_2 (n := (25 + 1 * w)) (k := 3) (v := 0) (by rw [bx_wk hw 3]; exact (show (-1 : Int) ≤ (0 : Int32).toInt ∧ (0 : Int32).toInt ≤ 127 from ⟨by decide, by decide⟩))
  refine h_puti (ty := .int) (ci := 10) (C := RX10) (F := TX10) (N := 8) hx hb hts in10 tyX10 tyX10_ok nmX10 hown hK hH hS (lt_nK (by omega)) (kd_wk hw) (by decide) rfl 3 (by decide) wd2 (fun _ h9 => h9) rfl (by decide +kernel) rfl rfl (by decide) rfl dX10_begin_12 (fun H locs hH hS => ?_)
  refine lv_aload_n hx hb dX10_begin_15 rfl (lv_at hl 0 rfl) ?_
  refine lv_iconst (v := 0) hx hb dX10_begin_16 (by decide) ?_
  have hO_4 := okp hO_3 (n := (25 + 1 * w)) (k := 4) (v := 0) (by rw [bx_wk hw 4]; exact (show (0 : Int) ≤ (0 : Int32).toInt ∧ (0 : Int32).toInt ≤ 5 from ⟨by decide, by decide⟩))
  refine h_puti (ty := .int) (ci := 10) (C := RX10) (F := TX10) (N := 8) hx hb hts in10 tyX10 tyX10_ok nmX10 hown hK hH hS (lt_nK (by omega)) (kd_wk hw) (by decide) rfl 4 (by decide) wd3 (fun _ h9 => h9) rfl (by decide +kernel) rfl rfl (by decide) rfl dX10_begin_17 (fun H locs hH hS => ?_)
  refine lv_aload_n hx hb dX10_begin_20 rfl (lv_at hl 0 rfl) ?_
  refine lv_dconst0 hx hb dX10_begin_21 ?_
  refine h_putd (ty := .double) (ci := 10) (C := RX10) (F := TX10) (N := 8) hx hb hts in10 tyX10 tyX10_ok nmX10 hown hK hH hS (lt_nK (by omega)) (kd_wk hw) (by decide) rfl 5 (by decide) wd4 (fun _ h9 => h9) rfl (by decide +kernel) rfl rfl (by decide) rfl dX10_begin_22 (fun H locs hH hS => ?_)
  have hq_5 : (up2 (up2 (up2 (up2 i (25 + 1 * w) 1 x) (25 + 1 * w) 2 0) (25 + 1 * w) 3 0) (25 + 1 * w) 4 0) (25 + 1 * w) 0 = (i (25 + 1 * w) 0) := ((up2_k _ _ (by decide)).trans ((up2_k _ _ (by decide)).trans ((up2_k _ _ (by decide)).trans (up2_k _ _ (by decide)))))
  have hq_5i := congrArg Int32.toInt hq_5
  have hq_6 : (up2 (up2 (up2 (up2 i (25 + 1 * w) 1 x) (25 + 1 * w) 2 0) (25 + 1 * w) 3 0) (25 + 1 * w) 4 0) (25 + 1 * w) 1 = x := ((up2_k _ _ (by decide)).trans ((up2_k _ _ (by decide)).trans ((up2_k _ _ (by decide)).trans (up2_at _ _ _ _))))
  have hq_6i := congrArg Int32.toInt hq_6
  have hq_7 : (up2 (up2 (up2 (up2 i (25 + 1 * w) 1 x) (25 + 1 * w) 2 0) (25 + 1 * w) 3 0) (25 + 1 * w) 4 0) (25 + 1 * w) 2 = 0 := ((up2_k _ _ (by decide)).trans ((up2_k _ _ (by decide)).trans (up2_at _ _ _ _)))
  have hq_7i := congrArg Int32.toInt hq_7
  have hq_8 : (up2 (up2 (up2 (up2 i (25 + 1 * w) 1 x) (25 + 1 * w) 2 0) (25 + 1 * w) 3 0) (25 + 1 * w) 4 0) (25 + 1 * w) 3 = 0 := ((up2_k _ _ (by decide)).trans (up2_at _ _ _ _))
  have hq_8i := congrArg Int32.toInt hq_8
  have hq_9 : (up2 (up2 (up2 (up2 i (25 + 1 * w) 1 x) (25 + 1 * w) 2 0) (25 + 1 * w) 3 0) (25 + 1 * w) 4 0) (25 + 1 * w) 4 = 0 := (up2_at _ _ _ _)
  have hq_9i := congrArg Int32.toInt hq_9
  exact sj_vret hx hb hr hlocks hS ((up2 (up2 (up2 (up2 i (25 + 1 * w) 1 x) (25 + 1 * w) 2 0) (25 + 1 * w) 3 0) (25 + 1 * w) 4 0), (upf d (25 + 1 * w) 5 0)) ⟨hO_4, (fun a ha => ((up2_n _ _ (by omega)).trans ((up2_n _ _ (by omega)).trans ((up2_n _ _ (by omega)).trans (up2_n _ _ (by omega)))))), (fun a ha => (upf_n _ _ (by omega))), (by dsimp only; first | omega | (refine ⟨?_, ?_, ?_, ?_, ?_⟩ <;> first | assumption | omega)), (by show dfin (upf _ _ _ _ _ _); rw [upf_at]; exact zero_fin)⟩ hH (sj_Knil hK) (Nat.le_of_ble_eq_true rfl) (Nat.le_of_ble_eq_true rfl) dX10_begin_25
set_option maxHeartbeats 2000000 in
set_option maxRecDepth 100000 in
theorem k_enter (l : Launch) (D : va_G) (g : Nat → Nat) (ka : Nat → ClassId) (ad : Nat → Nat) (i : Nat → Nat → Int32) (r : Nat → Nat → Nat) (L : Nat → Nat → Int64) (d : Nat → Nat → UInt64) (w : Nat) (x : Int32) (y : Int32) (hO : OkI i) (hR : RS r) (sz : Nat) (hw : w < 3) (hx0 : 0 ≤ x.toInt) (hx1 : x.toInt ≤ 2) (hy0 : -1 ≤ y.toInt) (hy1 : y.toInt ≤ 127) : Met l yX10_enter wsX10_enter ({ frames := 0, cells := 0, slots := 0, locals := 0 }) (va_Pc [.ref (g (25 + 1 * w)), .int x, .int y] (sj_B D (hwc g ka i r L d) (hT ka) sz (gx ad (va_A (hwc g ka i r L d) sz)))) (sj_Qv (S := (Nat → Nat → Int32)) D (fun u => OkI u ∧ (∀ a, ¬ (a = 25 + 1 * w) → u a = i a) ∧ ((u (25 + 1 * w) 2).toInt = x.toInt ∧ (u (25 + 1 * w) 3).toInt = y.toInt ∧ (u (25 + 1 * w) 0).toInt = (i (25 + 1 * w) 0).toInt ∧ (u (25 + 1 * w) 1).toInt = (i (25 + 1 * w) 1).toInt ∧ (u (25 + 1 * w) 4).toInt = (i (25 + 1 * w) 4).toInt)) (fun u => hwc g ka u r L d) (fun _ => []) (va_A (hwc g ka i r L d) sz)) 0 0 (va_A (hwc g ka i r L d) sz) := by
  refine x_met (Ex := gx ad) (cc := cX10_enter) (maxL := 3) (ret := none) (by decide) rfl (Nat.le_of_ble_eq_true rfl) ?_
  intro p e s m below meth c A ls hx hb hr hml hts hown hlocks hA hS hH hK hE hl
  have hown : s.vm.findClass RX10 = some m.cls := hown
  have in10 : ∀ w ∈ wsX100, w ∈ wsX10_enter := (fun _ h => (List.mem_cons_of_mem _ (List.mem_append_right _ h)))
  have wd0 := hts (.fieldLink RX10 18 "StoryDesk$Worker" "stage" "I") (List.mem_cons_of_mem _ (List.mem_append_left _ lm0))
  have wd1 := hts (.fieldLink RX10 21 "StoryDesk$Worker" "next" "I") (List.mem_cons_of_mem _ (List.mem_append_left _ lm1))
  have hl : lv_has ls 3 [(0, .ref (g (25 + 1 * w))), (1, .int x), (2, .int y)] := hl
  have hK : va_K D vwCl (hT ka) s := hK
  refine lv_aload_n hx hb dX10_enter_0 rfl (lv_at hl 0 rfl) ?_
  refine lv_iload_n hx hb dX10_enter_1 rfl (lv_at hl 1 rfl) ?_
  have hO_1 := okp hO (n := (25 + 1 * w)) (k := 2) (v := x) (by rw [bx_wk hw 2]; exact (show (0 : Int) ≤ (x : Int32).toInt ∧ (x : Int32).toInt ≤ 2 from ⟨by omega, by omega⟩))
  refine h_puti (ty := .int) (ci := 10) (C := RX10) (F := TX10) (N := 8) hx hb hts in10 tyX10 tyX10_ok nmX10 hown hK hH hS (lt_nK (by omega)) (kd_wk hw) (by decide) rfl 2 (by decide) wd0 (fun _ h9 => h9) rfl (by decide +kernel) rfl rfl (by decide) rfl dX10_enter_2 (fun H locs hH hS => ?_)
  refine lv_aload_n hx hb dX10_enter_5 rfl (lv_at hl 0 rfl) ?_
  refine lv_iload_n hx hb dX10_enter_6 rfl (lv_at hl 2 rfl) ?_
  have hO_2 := okp hO_1 (n := (25 + 1 * w)) (k := 3) (v := y) (by rw [bx_wk hw 3]; exact (show (-1 : Int) ≤ (y : Int32).toInt ∧ (y : Int32).toInt ≤ 127 from ⟨by omega, by omega⟩))
  refine h_puti (ty := .int) (ci := 10) (C := RX10) (F := TX10) (N := 8) hx hb hts in10 tyX10 tyX10_ok nmX10 hown hK hH hS (lt_nK (by omega)) (kd_wk hw) (by decide) rfl 3 (by decide) wd1 (fun _ h9 => h9) rfl (by decide +kernel) rfl rfl (by decide) rfl dX10_enter_7 (fun H locs hH hS => ?_)
  have hq_3 : (up2 (up2 i (25 + 1 * w) 2 x) (25 + 1 * w) 3 y) (25 + 1 * w) 0 = (i (25 + 1 * w) 0) := ((up2_k _ _ (by decide)).trans (up2_k _ _ (by decide)))
  have hq_3i := congrArg Int32.toInt hq_3
  have hq_4 : (up2 (up2 i (25 + 1 * w) 2 x) (25 + 1 * w) 3 y) (25 + 1 * w) 1 = (i (25 + 1 * w) 1) := ((up2_k _ _ (by decide)).trans (up2_k _ _ (by decide)))
  have hq_4i := congrArg Int32.toInt hq_4
  have hq_5 : (up2 (up2 i (25 + 1 * w) 2 x) (25 + 1 * w) 3 y) (25 + 1 * w) 2 = x := ((up2_k _ _ (by decide)).trans (up2_at _ _ _ _))
  have hq_5i := congrArg Int32.toInt hq_5
  have hq_6 : (up2 (up2 i (25 + 1 * w) 2 x) (25 + 1 * w) 3 y) (25 + 1 * w) 3 = y := (up2_at _ _ _ _)
  have hq_6i := congrArg Int32.toInt hq_6
  have hq_7 : (up2 (up2 i (25 + 1 * w) 2 x) (25 + 1 * w) 3 y) (25 + 1 * w) 4 = (i (25 + 1 * w) 4) := ((up2_k _ _ (by decide)).trans (up2_k _ _ (by decide)))
  have hq_7i := congrArg Int32.toInt hq_7
  exact sj_vret hx hb hr hlocks hS (up2 (up2 i (25 + 1 * w) 2 x) (25 + 1 * w) 3 y) ⟨hO_2, (fun a ha => ((up2_n _ _ (by omega)).trans (up2_n _ _ (by omega)))), (by first | omega | (refine ⟨?_, ?_, ?_, ?_, ?_⟩ <;> first | assumption | omega))⟩ hH (sj_Knil hK) (Nat.le_of_ble_eq_true rfl) (Nat.le_of_ble_eq_true rfl) dX10_enter_10
set_option maxHeartbeats 2000000 in
set_option maxRecDepth 100000 in
theorem k_note (l : Launch) (D : va_G) (g : Nat → Nat) (ka : Nat → ClassId) (ad : Nat → Nat) (i : Nat → Nat → Int32) (r : Nat → Nat → Nat) (L : Nat → Nat → Int64) (d : Nat → Nat → UInt64) (w : Nat) (x : Int32) (hO : OkI i) (hR : RS r) (sz : Nat) (hw : w < 3) (hx0 : 0 ≤ x.toInt) (hx1 : x.toInt ≤ 5) : Met l yX10_note wsX10_note ({ frames := 1, cells := 0, slots := 0, locals := 30 }) (va_Pc [.ref (g (25 + 1 * w)), .int x] (sj_B D (hwc g ka i r L d) (hT ka) sz (gx ad (va_A (hwc g ka i r L d) sz)))) (sj_Qv (S := (Nat → Nat → Int32)) D (fun u => OkI u ∧ (∀ a, ¬ (a = 25 + 1 * w) → u a = i a) ∧ ((((i (25 + 1 * w) 4).toInt ≤ x.toInt ∧ (u (25 + 1 * w) 4).toInt = x.toInt) ∨ (x.toInt ≤ (i (25 + 1 * w) 4).toInt ∧ (u (25 + 1 * w) 4).toInt = (i (25 + 1 * w) 4).toInt)) ∧ (u (25 + 1 * w) 0).toInt = (i (25 + 1 * w) 0).toInt ∧ (u (25 + 1 * w) 1).toInt = (i (25 + 1 * w) 1).toInt ∧ (u (25 + 1 * w) 2).toInt = (i (25 + 1 * w) 2).toInt ∧ (u (25 + 1 * w) 3).toInt = (i (25 + 1 * w) 3).toInt)) (fun u => hwc g ka u r L d) (fun _ => []) (va_A (hwc g ka i r L d) sz)) 0 0 (va_A (hwc g ka i r L d) sz) := by
  refine x_met (Ex := gx ad) (cc := cX10_note) (maxL := 2) (ret := none) (by decide) rfl (Nat.le_of_ble_eq_true rfl) ?_
  intro p e s m below meth c A ls hx hb hr hml hts hown hlocks hA hS hH hK hE hl
  have hown : s.vm.findClass RX10 = some m.cls := hown
  have in10 : ∀ w ∈ wsX100, w ∈ wsX10_note := (fun _ h => (List.mem_cons_of_mem _ (List.mem_append_right _ h)))
  have wd0 := hts (.fieldLink RX10 24 "StoryDesk$Worker" "worst" "I") (List.mem_cons_of_mem _ (List.mem_append_left _ lm0))
  have wd1 := hts (.methodLink RX10 31 Lib.Math.max.name) (List.mem_cons_of_mem _ (List.mem_append_left _ lm1))
  have wd2 := hts (.static Lib.Math.max.name) (List.mem_cons_of_mem _ (List.mem_append_left _ lm2))
  have wd3 := hts (.initialized "java/lang/Math") (List.mem_cons_of_mem _ (List.mem_append_left _ lm3))
  have wd4 := hts (.code Lib.Math.max.name Lib.Math.max.code 2 (some .int)) (List.mem_cons_of_mem _ (List.mem_append_left _ lm4))
  have hl : lv_has ls 2 [(0, .ref (g (25 + 1 * w))), (1, .int x)] := hl
  have hK : va_K D vwCl (hT ka) s := hK
  refine lv_aload_n hx hb dX10_note_0 rfl (lv_at hl 0 rfl) ?_
  refine lv_aload_n hx hb dX10_note_1 rfl (lv_at hl 0 rfl) ?_
  have bx_1 : (0 : Int) ≤ (i (25 + 1 * w) 4).toInt ∧ (i (25 + 1 * w) 4).toInt ≤ 5 := by have h9 := hO (25 + 1 * w) 4; rw [bx_wk hw 4] at h9; exact h9
  refine h_geti (ci := 10) (C := RX10) (F := TX10) (N := 8) hx hb hts in10 hown hK hH (lt_nK (by omega)) (kd_wk hw) (by decide) rfl 4 (by decide) wd0 (fun _ h9 => h9) (by decide) rfl dX10_note_2 ?_
  refine lv_iload_n hx hb dX10_note_5 rfl (lv_at hl 1 rfl) ?_
  refine va_mmax hx hb (hml.trans hl.1.symm) hown wd1 wd2 wd3 wd4 (Nat.le_of_ble_eq_true rfl) (Nat.le_of_ble_eq_true rfl) (Nat.le_of_ble_eq_true rfl) (Nat.le_of_ble_eq_true rfl) dX10_note_6 ?_
  obtain ⟨z_2, ez_2⟩ : ∃ z, (if (i (25 + 1 * w) 4) < x then x else (i (25 + 1 * w) 4)) = z := ⟨_, rfl⟩
  refine sj_i ez_2 ?_
  have hz_2 := s_max (rfl : (i (25 + 1 * w) 4).toInt = _) (rfl : x.toInt = _) ez_2
  have hO_3 := okp hO (n := (25 + 1 * w)) (k := 4) (v := z_2) (by rw [bx_wk hw 4]; exact (show (0 : Int) ≤ (z_2 : Int32).toInt ∧ (z_2 : Int32).toInt ≤ 5 from ⟨by omega, by omega⟩))
  refine h_puti (ty := .int) (ci := 10) (C := RX10) (F := TX10) (N := 8) hx hb hts in10 tyX10 tyX10_ok nmX10 hown hK hH hS (lt_nK (by omega)) (kd_wk hw) (by decide) rfl 4 (by decide) wd0 (fun _ h9 => h9) rfl (by decide +kernel) rfl rfl (by decide) rfl dX10_note_9 (fun H locs hH hS => ?_)
  have hq_4 : (up2 i (25 + 1 * w) 4 z_2) (25 + 1 * w) 0 = (i (25 + 1 * w) 0) := (up2_k _ _ (by decide))
  have hq_4i := congrArg Int32.toInt hq_4
  have hq_5 : (up2 i (25 + 1 * w) 4 z_2) (25 + 1 * w) 1 = (i (25 + 1 * w) 1) := (up2_k _ _ (by decide))
  have hq_5i := congrArg Int32.toInt hq_5
  have hq_6 : (up2 i (25 + 1 * w) 4 z_2) (25 + 1 * w) 2 = (i (25 + 1 * w) 2) := (up2_k _ _ (by decide))
  have hq_6i := congrArg Int32.toInt hq_6
  have hq_7 : (up2 i (25 + 1 * w) 4 z_2) (25 + 1 * w) 3 = (i (25 + 1 * w) 3) := (up2_k _ _ (by decide))
  have hq_7i := congrArg Int32.toInt hq_7
  have hq_8 : (up2 i (25 + 1 * w) 4 z_2) (25 + 1 * w) 4 = z_2 := (up2_at _ _ _ _)
  have hq_8i := congrArg Int32.toInt hq_8
  exact sj_vret hx hb hr hlocks hS (up2 i (25 + 1 * w) 4 z_2) ⟨hO_3, (fun a ha => (up2_n _ _ (by omega))), (by refine ⟨?_, ?_, ?_, ?_, ?_⟩ <;> omega)⟩ hH (sj_Knil hK) (Nat.le_of_ble_eq_true rfl) (Nat.le_of_ble_eq_true rfl) dX10_note_12
set_option maxHeartbeats 2000000 in
set_option maxRecDepth 100000 in
theorem k_tell (l : Launch) (D : va_G) (g : Nat → Nat) (ka : Nat → ClassId) (ad : Nat → Nat) (i : Nat → Nat → Int32) (r : Nat → Nat → Nat) (L : Nat → Nat → Int64) (d : Nat → Nat → UInt64) (x : Int32) (y : Int32) (z : Int32) (v4 : Int32) (hO : OkI i) (hR : RS r) (sz : Nat) (hev : (i 23 10).toInt ≤ 2000000000) : Met l yX7_tell wsX7_tell ({ frames := 0, cells := 0, slots := 0, locals := 0 }) (va_Pc [.ref (g 23), .int x, .int y, .int z, .int v4] (sj_B D (hwc g ka i r L d) (hT ka) sz (gx ad (va_A (hwc g ka i r L d) sz)))) (sj_Qv (S := (Nat → Nat → Int32)) D (fun u => OkI u ∧ (∀ a, ¬ (a = 23 ∨ a = 29) → u a = i a) ∧ ((u 23 10).toInt = (i 23 10).toInt + 1 ∧ (u 23 1).toInt = (i 23 1).toInt ∧ (u 23 2).toInt = (i 23 2).toInt ∧ (u 23 4).toInt = (i 23 4).toInt ∧ (u 23 5).toInt = (i 23 5).toInt ∧ (u 23 6).toInt = (i 23 6).toInt ∧ (u 23 7).toInt = (i 23 7).toInt ∧ (u 23 8).toInt = (i 23 8).toInt)) (fun u => hwc g ka u r L d) (fun _ => []) (va_A (hwc g ka i r L d) sz)) 0 0 (va_A (hwc g ka i r L d) sz) := by
  refine x_met (Ex := gx ad) (cc := cX7_tell) (maxL := 6) (ret := none) (by decide) rfl (Nat.le_of_ble_eq_true rfl) ?_
  intro p e s m below meth c A ls hx hb hr hml hts hown hlocks hA hS hH hK hE hl
  have hown : s.vm.findClass RX7 = some m.cls := hown
  have in7 : ∀ w ∈ wsX70, w ∈ wsX7_tell := (fun _ h => (List.mem_cons_of_mem _ (List.mem_append_right _ h)))
  have wd0 := hts (.fieldLink RX7 75 "StoryDesk$Run" "eventCount" "I") (List.mem_cons_of_mem _ (List.mem_append_left _ lm0))
  have wd1 := hts (.fieldLink RX7 26 "StoryDesk$Run" "events" "[I") (List.mem_cons_of_mem _ (List.mem_append_left _ lm1))
  have hl : lv_has ls 6 [(0, .ref (g 23)), (1, .int x), (2, .int y), (3, .int z), (4, .int v4)] := hl
  have hK : va_K D vwCl (hT ka) s := hK
  have hg_1 := s_rng x
  have hg_2 := s_rng y
  have hg_3 := s_rng z
  have hg_4 := s_rng v4
  refine lv_aload_n hx hb dX7_tell_0 rfl (lv_at hl 0 rfl) ?_
  have bx_5 : (0 : Int) ≤ (i 23 10).toInt ∧ (i 23 10).toInt ≤ 2147483647 := hO 23 10
  refine h_geti (ci := 7) (C := RX7) (F := TX7) (N := 11) hx hb hts in7 hown hK hH (by decide) (rfl : kd 23 = 7) (by decide) rfl 10 (by decide) wd0 (fun _ h9 => h9) (by decide) rfl dX7_tell_1 ?_
  refine lv_bipush (v := 64) hx hb dX7_tell_4 (by decide) ?_
  refine lv_irem hx hb dX7_tell_6 (by decide) ?_
  obtain ⟨z_6, ez_6, hz_6⟩ := s_rem2 (rfl : (i 23 10).toInt = _) (show (64 : Int32).toInt = 64 from rfl) (by omega) (by omega)
  refine sj_i ez_6 ?_
  refine lv_iconst (v := 4) hx hb dX7_tell_7 (by decide) ?_
  refine lv_imul hx hb dX7_tell_8 ?_
  obtain ⟨z_7, ez_7, hz_7⟩ := s_mul (rfl : z_6.toInt = _) (show (4 : Int32).toInt = 4 from rfl) (by omega) (by omega)
  refine sj_i ez_7 ?_
  refine lv_istore (lv' := [(5, .int z_7), (0, .ref (g 23)), (1, .int x), (2, .int y), (3, .int z), (4, .int v4)]) hx hb dX7_tell_9 hl (by decide) rfl (fun ls hl => ?_)
  refine lv_aload_n hx hb dX7_tell_11 rfl (lv_at hl 1 rfl) ?_
  refine h_getr (ci := 7) (C := RX7) (F := TX7) (N := 11) hx hb hts in7 hown hK hH (by decide) (rfl : kd 23 = 7) (by decide) rfl 9 (by decide) wd1 (fun _ h9 => h9) (by decide) rfl (t := 29) (hR 23 9 rfl) (by decide) dX7_tell_12 ?_
  refine lv_iload hx hb dX7_tell_15 (lv_at hl 0 rfl) ?_
  refine lv_iload_n hx hb dX7_tell_17 rfl (lv_at hl 2 rfl) ?_
  have hO_8 := okp hO (n := 29) (k := (4 * z_6.toInt).toNat) (v := x) (show (-2147483648 : Int) ≤ (x : Int32).toInt ∧ (x : Int32).toInt ≤ 2147483647 from s_rng x)
  refine h_iast hx hb hK hH hS (by decide) (rfl : kd 29 = 13) (s_vin (N := 256) (rfl : z_7.toInt = _) (rfl : ln 29 = 256) (by omega) (by omega)) dX7_tell_18 (fun H locs hH hS => ?_)
  rw [s_cl (show z_7.toInt = 4 * z_6.toInt by omega)] at hH
  refine lv_aload_n hx hb dX7_tell_19 rfl (lv_at hl 1 rfl) ?_
  refine h_getr (ci := 7) (C := RX7) (F := TX7) (N := 11) hx hb hts in7 hown hK hH (by decide) (rfl : kd 23 = 7) (by decide) rfl 9 (by decide) wd1 (fun _ h9 => h9) (by decide) rfl (t := 29) (hR 23 9 rfl) (by decide) dX7_tell_20 ?_
  refine lv_iload hx hb dX7_tell_23 (lv_at hl 0 rfl) ?_
  refine lv_iconst (v := 1) hx hb dX7_tell_25 (by decide) ?_
  refine lv_iadd hx hb dX7_tell_26 ?_
  obtain ⟨z_9, ez_9, hz_9⟩ := s_add (rfl : z_7.toInt = _) (show (1 : Int32).toInt = 1 from rfl) (by omega) (by omega)
  refine sj_i ez_9 ?_
  refine lv_iload_n hx hb dX7_tell_27 rfl (lv_at hl 3 rfl) ?_
  have hO_10 := okp hO_8 (n := 29) (k := (4 * z_6.toInt + 1).toNat) (v := y) (show (-2147483648 : Int) ≤ (y : Int32).toInt ∧ (y : Int32).toInt ≤ 2147483647 from s_rng y)
  refine h_iast hx hb hK hH hS (by decide) (rfl : kd 29 = 13) (s_vin (N := 256) (rfl : z_9.toInt = _) (rfl : ln 29 = 256) (by omega) (by omega)) dX7_tell_28 (fun H locs hH hS => ?_)
  rw [s_cl (show z_9.toInt = 4 * z_6.toInt + 1 by omega)] at hH
  refine lv_aload_n hx hb dX7_tell_29 rfl (lv_at hl 1 rfl) ?_
  refine h_getr (ci := 7) (C := RX7) (F := TX7) (N := 11) hx hb hts in7 hown hK hH (by decide) (rfl : kd 23 = 7) (by decide) rfl 9 (by decide) wd1 (fun _ h9 => h9) (by decide) rfl (t := 29) (hR 23 9 rfl) (by decide) dX7_tell_30 ?_
  refine lv_iload hx hb dX7_tell_33 (lv_at hl 0 rfl) ?_
  refine lv_iconst (v := 2) hx hb dX7_tell_35 (by decide) ?_
  refine lv_iadd hx hb dX7_tell_36 ?_
  obtain ⟨z_11, ez_11, hz_11⟩ := s_add (rfl : z_7.toInt = _) (show (2 : Int32).toInt = 2 from rfl) (by omega) (by omega)
  refine sj_i ez_11 ?_
  refine lv_iload_n hx hb dX7_tell_37 rfl (lv_at hl 4 rfl) ?_
  have hO_12 := okp hO_10 (n := 29) (k := (4 * z_6.toInt + 2).toNat) (v := z) (show (-2147483648 : Int) ≤ (z : Int32).toInt ∧ (z : Int32).toInt ≤ 2147483647 from s_rng z)
  refine h_iast hx hb hK hH hS (by decide) (rfl : kd 29 = 13) (s_vin (N := 256) (rfl : z_11.toInt = _) (rfl : ln 29 = 256) (by omega) (by omega)) dX7_tell_38 (fun H locs hH hS => ?_)
  rw [s_cl (show z_11.toInt = 4 * z_6.toInt + 2 by omega)] at hH
  refine lv_aload_n hx hb dX7_tell_39 rfl (lv_at hl 1 rfl) ?_
  refine h_getr (ci := 7) (C := RX7) (F := TX7) (N := 11) hx hb hts in7 hown hK hH (by decide) (rfl : kd 23 = 7) (by decide) rfl 9 (by decide) wd1 (fun _ h9 => h9) (by decide) rfl (t := 29) (hR 23 9 rfl) (by decide) dX7_tell_40 ?_
  refine lv_iload hx hb dX7_tell_43 (lv_at hl 0 rfl) ?_
  refine lv_iconst (v := 3) hx hb dX7_tell_45 (by decide) ?_
  refine lv_iadd hx hb dX7_tell_46 ?_
  obtain ⟨z_13, ez_13, hz_13⟩ := s_add (rfl : z_7.toInt = _) (show (3 : Int32).toInt = 3 from rfl) (by omega) (by omega)
  refine sj_i ez_13 ?_
  refine lv_iload hx hb dX7_tell_47 (lv_at hl 5 rfl) ?_
  have hO_14 := okp hO_12 (n := 29) (k := (4 * z_6.toInt + 3).toNat) (v := v4) (show (-2147483648 : Int) ≤ (v4 : Int32).toInt ∧ (v4 : Int32).toInt ≤ 2147483647 from s_rng v4)
  refine h_iast hx hb hK hH hS (by decide) (rfl : kd 29 = 13) (s_vin (N := 256) (rfl : z_13.toInt = _) (rfl : ln 29 = 256) (by omega) (by omega)) dX7_tell_49 (fun H locs hH hS => ?_)
  rw [s_cl (show z_13.toInt = 4 * z_6.toInt + 3 by omega)] at hH
  refine lv_aload_n hx hb dX7_tell_50 rfl (lv_at hl 1 rfl) ?_
  refine lv_dup hx hb dX7_tell_51 rfl ?_
  refine h_geti (ci := 7) (C := RX7) (F := TX7) (N := 11) hx hb hts in7 hown hK hH (by decide) (rfl : kd 23 = 7) (by decide) rfl 10 (by decide) wd0 (fun _ h9 => h9) (by decide) rfl dX7_tell_52 ?_
  refine sj_i (y := (i 23 10)) ((congrFun (up2_n _ _ (by decide)) _).trans ((congrFun (up2_n _ _ (by decide)) _).trans ((congrFun (up2_n _ _ (by decide)) _).trans (congrFun (up2_n _ _ (by decide)) _)))) ?_
  refine lv_iconst (v := 1) hx hb dX7_tell_55 (by decide) ?_
  refine lv_iadd hx hb dX7_tell_56 ?_
  obtain ⟨z_15, ez_15, hz_15⟩ := s_add (rfl : (i 23 10).toInt = _) (show (1 : Int32).toInt = 1 from rfl) (by omega) (by omega)
  refine sj_i ez_15 ?_
  have hO_16 := okp hO_14 (n := 23) (k := 10) (v := z_15) (show (0 : Int) ≤ (z_15 : Int32).toInt ∧ (z_15 : Int32).toInt ≤ 2147483647 from ⟨by omega, by omega⟩)
  refine h_puti (ty := .int) (ci := 7) (C := RX7) (F := TX7) (N := 11) hx hb hts in7 tyX7 tyX7_ok nmX7 hown hK hH hS (by decide) (rfl : kd 23 = 7) (by decide) rfl 10 (by decide) wd0 (fun _ h9 => h9) rfl (by decide +kernel) rfl rfl (by decide) rfl dX7_tell_57 (fun H locs hH hS => ?_)
  have hq_17 : (up2 (up2 (up2 (up2 (up2 i 29 (4 * z_6.toInt).toNat x) 29 (4 * z_6.toInt + 1).toNat y) 29 (4 * z_6.toInt + 2).toNat z) 29 (4 * z_6.toInt + 3).toNat v4) 23 10 z_15) 23 1 = (i 23 1) := ((up2_k _ _ (by decide)).trans ((congrFun (up2_n _ _ (by decide)) _).trans ((congrFun (up2_n _ _ (by decide)) _).trans ((congrFun (up2_n _ _ (by decide)) _).trans (congrFun (up2_n _ _ (by decide)) _)))))
  have hq_17i := congrArg Int32.toInt hq_17
  have hq_18 : (up2 (up2 (up2 (up2 (up2 i 29 (4 * z_6.toInt).toNat x) 29 (4 * z_6.toInt + 1).toNat y) 29 (4 * z_6.toInt + 2).toNat z) 29 (4 * z_6.toInt + 3).toNat v4) 23 10 z_15) 23 2 = (i 23 2) := ((up2_k _ _ (by decide)).trans ((congrFun (up2_n _ _ (by decide)) _).trans ((congrFun (up2_n _ _ (by decide)) _).trans ((congrFun (up2_n _ _ (by decide)) _).trans (congrFun (up2_n _ _ (by decide)) _)))))
  have hq_18i := congrArg Int32.toInt hq_18
  have hq_19 : (up2 (up2 (up2 (up2 (up2 i 29 (4 * z_6.toInt).toNat x) 29 (4 * z_6.toInt + 1).toNat y) 29 (4 * z_6.toInt + 2).toNat z) 29 (4 * z_6.toInt + 3).toNat v4) 23 10 z_15) 23 4 = (i 23 4) := ((up2_k _ _ (by decide)).trans ((congrFun (up2_n _ _ (by decide)) _).trans ((congrFun (up2_n _ _ (by decide)) _).trans ((congrFun (up2_n _ _ (by decide)) _).trans (congrFun (up2_n _ _ (by decide)) _)))))
  have hq_19i := congrArg Int32.toInt hq_19
  have hq_20 : (up2 (up2 (up2 (up2 (up2 i 29 (4 * z_6.toInt).toNat x) 29 (4 * z_6.toInt + 1).toNat y) 29 (4 * z_6.toInt + 2).toNat z) 29 (4 * z_6.toInt + 3).toNat v4) 23 10 z_15) 23 5 = (i 23 5) := ((up2_k _ _ (by decide)).trans ((congrFun (up2_n _ _ (by decide)) _).trans ((congrFun (up2_n _ _ (by decide)) _).trans ((congrFun (up2_n _ _ (by decide)) _).trans (congrFun (up2_n _ _ (by decide)) _)))))
  have hq_20i := congrArg Int32.toInt hq_20
  have hq_21 : (up2 (up2 (up2 (up2 (up2 i 29 (4 * z_6.toInt).toNat x) 29 (4 * z_6.toInt + 1).toNat y) 29 (4 * z_6.toInt + 2).toNat z) 29 (4 * z_6.toInt + 3).toNat v4) 23 10 z_15) 23 6 = (i 23 6) := ((up2_k _ _ (by decide)).trans ((congrFun (up2_n _ _ (by decide)) _).trans ((congrFun (up2_n _ _ (by decide)) _).trans ((congrFun (up2_n _ _ (by decide)) _).trans (congrFun (up2_n _ _ (by decide)) _)))))
  have hq_21i := congrArg Int32.toInt hq_21
  have hq_22 : (up2 (up2 (up2 (up2 (up2 i 29 (4 * z_6.toInt).toNat x) 29 (4 * z_6.toInt + 1).toNat y) 29 (4 * z_6.toInt + 2).toNat z) 29 (4 * z_6.toInt + 3).toNat v4) 23 10 z_15) 23 7 = (i 23 7) := ((up2_k _ _ (by decide)).trans ((congrFun (up2_n _ _ (by decide)) _).trans ((congrFun (up2_n _ _ (by decide)) _).trans ((congrFun (up2_n _ _ (by decide)) _).trans (congrFun (up2_n _ _ (by decide)) _)))))
  have hq_22i := congrArg Int32.toInt hq_22
  have hq_23 : (up2 (up2 (up2 (up2 (up2 i 29 (4 * z_6.toInt).toNat x) 29 (4 * z_6.toInt + 1).toNat y) 29 (4 * z_6.toInt + 2).toNat z) 29 (4 * z_6.toInt + 3).toNat v4) 23 10 z_15) 23 8 = (i 23 8) := ((up2_k _ _ (by decide)).trans ((congrFun (up2_n _ _ (by decide)) _).trans ((congrFun (up2_n _ _ (by decide)) _).trans ((congrFun (up2_n _ _ (by decide)) _).trans (congrFun (up2_n _ _ (by decide)) _)))))
  have hq_23i := congrArg Int32.toInt hq_23
  have hq_24 : (up2 (up2 (up2 (up2 (up2 i 29 (4 * z_6.toInt).toNat x) 29 (4 * z_6.toInt + 1).toNat y) 29 (4 * z_6.toInt + 2).toNat z) 29 (4 * z_6.toInt + 3).toNat v4) 23 10 z_15) 23 10 = z_15 := (up2_at _ _ _ _)
  have hq_24i := congrArg Int32.toInt hq_24
  exact sj_vret hx hb hr hlocks hS (up2 (up2 (up2 (up2 (up2 i 29 (4 * z_6.toInt).toNat x) 29 (4 * z_6.toInt + 1).toNat y) 29 (4 * z_6.toInt + 2).toNat z) 29 (4 * z_6.toInt + 3).toNat v4) 23 10 z_15) ⟨hO_16, (fun a ha => ((up2_n _ _ (by omega)).trans ((up2_n _ _ (by omega)).trans ((up2_n _ _ (by omega)).trans ((up2_n _ _ (by omega)).trans (up2_n _ _ (by omega))))))), (by first | omega | (refine ⟨?_, ?_, ?_, ?_, ?_, ?_, ?_, ?_⟩ <;> first | assumption | omega))⟩ hH (sj_Knil hK) (Nat.le_of_ble_eq_true rfl) (Nat.le_of_ble_eq_true rfl) dX7_tell_60
set_option maxHeartbeats 2000000 in
set_option maxRecDepth 100000 in
theorem k_told (l : Launch) (D : va_G) (g : Nat → Nat) (ka : Nat → ClassId) (ad : Nat → Nat) (i : Nat → Nat → Int32) (r : Nat → Nat → Nat) (L : Nat → Nat → Int64) (d : Nat → Nat → UInt64) (x : Int32) (y : Int32) (hO : OkI i) (hR : RS r) (sz : Nat)  : Met l yX7_told wsX7_told ({ frames := 0, cells := 0, slots := 0, locals := 0 }) (va_Pc [.ref (g 23), .int x, .int y] (sj_B D (hwc g ka i r L d) (hT ka) sz (gx ad (va_A (hwc g ka i r L d) sz)))) (sj_Qi (S := Unit) D (fun v u => True) (fun _ => hwc g ka i r L d) (fun _ => []) (va_A (hwc g ka i r L d) sz)) 0 0 (va_A (hwc g ka i r L d) sz) := by
  refine x_met (Ex := gx ad) (cc := cX7_told) (maxL := 3) (ret := (some .int)) (by decide) rfl (Nat.le_of_ble_eq_true rfl) ?_
  intro p e s m below meth c A ls hx hb hr hml hts hown hlocks hA hS hH hK hE hl
  have hown : s.vm.findClass RX7 = some m.cls := hown
  have in7 : ∀ w ∈ wsX70, w ∈ wsX7_told := (fun _ h => (List.mem_cons_of_mem _ (List.mem_append_right _ h)))
  have wd0 := hts (.fieldLink RX7 75 "StoryDesk$Run" "eventCount" "I") (List.mem_cons_of_mem _ (List.mem_append_left _ lm0))
  have wd1 := hts (.fieldLink RX7 26 "StoryDesk$Run" "events" "[I") (List.mem_cons_of_mem _ (List.mem_append_left _ lm1))
  have hl : lv_has ls 3 [(0, .ref (g 23)), (1, .int x), (2, .int y)] := hl
  have hK : va_K D vwCl (hT ka) s := hK
  have hg_1 := s_rng x
  have hg_2 := s_rng y
  refine lv_iload_n hx hb dX7_told_0 rfl (lv_at hl 1 rfl) ?_
  refine lv_if_lt (tgt := 27) hx hb dX7_told_1 (by decide) (fun c_3 => ?_) (fun c_3 => ?_)
  · skip
    have h_4 := s_lt (rfl : x.toInt = _) (show (0 : Int32).toInt = 0 from rfl) c_3
    refine lv_iconst (v := (-1)) hx hb dX7_told_27 (by decide) ?_
    exact sj_zret hx hb hr hlocks rfl hS () trivial hH (sj_Knil hK) (Nat.le_of_ble_eq_true rfl) (Nat.le_of_ble_eq_true rfl) dX7_told_28
  · skip
    have h_5 := s_nlt (rfl : x.toInt = _) (show (0 : Int32).toInt = 0 from rfl) c_3
    refine lv_iload_n hx hb dX7_told_4 rfl (lv_at hl 1 rfl) ?_
    refine lv_bipush (v := 64) hx hb dX7_told_5 (by decide) ?_
    refine lv_icmp_ge (tgt := 27) hx hb dX7_told_7 (by decide) (fun c_6 => ?_) (fun c_6 => ?_)
    · skip
      have h_7 := s_le (show (64 : Int32).toInt = 64 from rfl) (rfl : x.toInt = _) c_6
      refine lv_iconst (v := (-1)) hx hb dX7_told_27 (by decide) ?_
      exact sj_zret hx hb hr hlocks rfl hS () trivial hH (sj_Knil hK) (Nat.le_of_ble_eq_true rfl) (Nat.le_of_ble_eq_true rfl) dX7_told_28
    · skip
      have h_8 := s_nle (show (64 : Int32).toInt = 64 from rfl) (rfl : x.toInt = _) c_6
      refine lv_iload_n hx hb dX7_told_10 rfl (lv_at hl 1 rfl) ?_
      refine lv_aload_n hx hb dX7_told_11 rfl (lv_at hl 0 rfl) ?_
      have bx_9 : (0 : Int) ≤ (i 23 10).toInt ∧ (i 23 10).toInt ≤ 2147483647 := hO 23 10
      refine h_geti (ci := 7) (C := RX7) (F := TX7) (N := 11) hx hb hts in7 hown hK hH (by decide) (rfl : kd 23 = 7) (by decide) rfl 10 (by decide) wd0 (fun _ h9 => h9) (by decide) rfl dX7_told_12 ?_
      refine lv_icmp_ge (tgt := 27) hx hb dX7_told_15 (by decide) (fun c_10 => ?_) (fun c_10 => ?_)
      · skip
        have h_11 := s_le (rfl : (i 23 10).toInt = _) (rfl : x.toInt = _) c_10
        refine lv_iconst (v := (-1)) hx hb dX7_told_27 (by decide) ?_
        exact sj_zret hx hb hr hlocks rfl hS () trivial hH (sj_Knil hK) (Nat.le_of_ble_eq_true rfl) (Nat.le_of_ble_eq_true rfl) dX7_told_28
      · skip
        have h_12 := s_nle (rfl : (i 23 10).toInt = _) (rfl : x.toInt = _) c_10
        refine lv_iload_n hx hb dX7_told_18 rfl (lv_at hl 2 rfl) ?_
        refine lv_if_lt (tgt := 27) hx hb dX7_told_19 (by decide) (fun c_13 => ?_) (fun c_13 => ?_)
        · skip
          have h_14 := s_lt (rfl : y.toInt = _) (show (0 : Int32).toInt = 0 from rfl) c_13
          refine lv_iconst (v := (-1)) hx hb dX7_told_27 (by decide) ?_
          exact sj_zret hx hb hr hlocks rfl hS () trivial hH (sj_Knil hK) (Nat.le_of_ble_eq_true rfl) (Nat.le_of_ble_eq_true rfl) dX7_told_28
        · skip
          have h_15 := s_nlt (rfl : y.toInt = _) (show (0 : Int32).toInt = 0 from rfl) c_13
          refine lv_iload_n hx hb dX7_told_22 rfl (lv_at hl 2 rfl) ?_
          refine lv_iconst (v := 4) hx hb dX7_told_23 (by decide) ?_
          refine lv_icmp_lt (tgt := 29) hx hb dX7_told_24 (by decide) (fun c_16 => ?_) (fun c_16 => ?_)
          · skip
            have h_17 := s_lt (rfl : y.toInt = _) (show (4 : Int32).toInt = 4 from rfl) c_16
            refine lv_aload_n hx hb dX7_told_29 rfl (lv_at hl 0 rfl) ?_
            refine h_getr (ci := 7) (C := RX7) (F := TX7) (N := 11) hx hb hts in7 hown hK hH (by decide) (rfl : kd 23 = 7) (by decide) rfl 9 (by decide) wd1 (fun _ h9 => h9) (by decide) rfl (t := 29) (hR 23 9 rfl) (by decide) dX7_told_30 ?_
            refine lv_aload_n hx hb dX7_told_33 rfl (lv_at hl 0 rfl) ?_
            refine h_geti (ci := 7) (C := RX7) (F := TX7) (N := 11) hx hb hts in7 hown hK hH (by decide) (rfl : kd 23 = 7) (by decide) rfl 10 (by decide) wd0 (fun _ h9 => h9) (by decide) rfl dX7_told_34 ?_
            refine lv_iconst (v := 1) hx hb dX7_told_37 (by decide) ?_
            refine lv_isub hx hb dX7_told_38 ?_
            obtain ⟨z_18, ez_18, hz_18⟩ := s_sub (rfl : (i 23 10).toInt = _) (show (1 : Int32).toInt = 1 from rfl) (by omega) (by omega)
            refine sj_i ez_18 ?_
            refine lv_iload_n hx hb dX7_told_39 rfl (lv_at hl 1 rfl) ?_
            refine lv_isub hx hb dX7_told_40 ?_
            obtain ⟨z_19, ez_19, hz_19⟩ := s_sub (rfl : z_18.toInt = _) (rfl : x.toInt = _) (by omega) (by omega)
            refine sj_i ez_19 ?_
            refine lv_bipush (v := 64) hx hb dX7_told_41 (by decide) ?_
            refine lv_irem hx hb dX7_told_43 (by decide) ?_
            obtain ⟨z_20, ez_20, hz_20⟩ := s_rem2 (rfl : z_19.toInt = _) (show (64 : Int32).toInt = 64 from rfl) (by omega) (by omega)
            refine sj_i ez_20 ?_
            refine lv_iconst (v := 4) hx hb dX7_told_44 (by decide) ?_
            refine lv_imul hx hb dX7_told_45 ?_
            obtain ⟨z_21, ez_21, hz_21⟩ := s_mul (rfl : z_20.toInt = _) (show (4 : Int32).toInt = 4 from rfl) (by omega) (by omega)
            refine sj_i ez_21 ?_
            refine lv_iload_n hx hb dX7_told_46 rfl (lv_at hl 2 rfl) ?_
            refine lv_iadd hx hb dX7_told_47 ?_
            obtain ⟨z_22, ez_22, hz_22⟩ := s_add (rfl : z_21.toInt = _) (rfl : y.toInt = _) (by omega) (by omega)
            refine sj_i ez_22 ?_
            refine h_iald hx hb hK hH (by decide) (rfl : kd 29 = 13) (s_vin (N := 256) (rfl : z_22.toInt = _) (rfl : ln 29 = 256) (by omega) (by omega)) dX7_told_48 ?_
            have ek_23 : z_22.toNatClampNeg = (y.toInt + 4 * z_20.toInt).toNat := (s_cl (show z_22.toInt = y.toInt + 4 * z_20.toInt by omega))
            refine sj_i (y := (i 29 (y.toInt + 4 * z_20.toInt).toNat)) (by rw [ek_23]) ?_
            exact sj_zret hx hb hr hlocks rfl hS () trivial hH (sj_Knil hK) (Nat.le_of_ble_eq_true rfl) (Nat.le_of_ble_eq_true rfl) dX7_told_49
          · skip
            have h_24 := s_nlt (rfl : y.toInt = _) (show (4 : Int32).toInt = 4 from rfl) c_16
            refine lv_iconst (v := (-1)) hx hb dX7_told_27 (by decide) ?_
            exact sj_zret hx hb hr hlocks rfl hS () trivial hH (sj_Knil hK) (Nat.le_of_ble_eq_true rfl) (Nat.le_of_ble_eq_true rfl) dX7_told_28
set_option maxHeartbeats 2000000 in
set_option maxRecDepth 100000 in
theorem k_enqueue (l : Launch) (D : va_G) (g : Nat → Nat) (ka : Nat → ClassId) (ad : Nat → Nat) (i : Nat → Nat → Int32) (r : Nat → Nat → Nat) (L : Nat → Nat → Int64) (d : Nat → Nat → UInt64) (x : Int32) (hO : OkI i) (hR : RS r) (sz : Nat) (hx0 : 0 ≤ x.toInt) (hx1 : x.toInt ≤ 23) (hq : (i 23 4).toInt ≤ 23) : Met l yX7_enqueue wsX7_enqueue ({ frames := 0, cells := 0, slots := 0, locals := 0 }) (va_Pc [.ref (g 23), .int x] (sj_B D (hwc g ka i r L d) (hT ka) sz (gx ad (va_A (hwc g ka i r L d) sz)))) (sj_Qv (S := (Nat → Nat → Int32)) D (fun u => OkI u ∧ (∀ a, ¬ (a = 23 ∨ a = 28) → u a = i a) ∧ ((u 23 4).toInt = (i 23 4).toInt + 1 ∧ (u 23 1).toInt = (i 23 1).toInt ∧ (u 23 2).toInt = (i 23 2).toInt ∧ (u 23 5).toInt = (i 23 5).toInt ∧ (u 23 6).toInt = (i 23 6).toInt ∧ (u 23 7).toInt = (i 23 7).toInt ∧ (u 23 8).toInt = (i 23 8).toInt ∧ (u 23 10).toInt = (i 23 10).toInt) ∧ (u 28 (i 23 4).toInt.toNat = x) ∧ (∀ k : Nat, k ≠ (i 23 4).toInt.toNat → u 28 k = i 28 k)) (fun u => hwc g ka u r L d) (fun _ => []) (va_A (hwc g ka i r L d) sz)) 0 0 (va_A (hwc g ka i r L d) sz) := by
  refine x_met (Ex := gx ad) (cc := cX7_enqueue) (maxL := 2) (ret := none) (by decide) rfl (Nat.le_of_ble_eq_true rfl) ?_
  intro p e s m below meth c A ls hx hb hr hml hts hown hlocks hA hS hH hK hE hl
  have hown : s.vm.findClass RX7 = some m.cls := hown
  have in7 : ∀ w ∈ wsX70, w ∈ wsX7_enqueue := (fun _ h => (List.mem_cons_of_mem _ (List.mem_append_right _ h)))
  have wd0 := hts (.fieldLink RX7 36 "StoryDesk$Run" "queued" "I") (List.mem_cons_of_mem _ (List.mem_append_left _ lm0))
  have wd1 := hts (.fieldLink RX7 22 "StoryDesk$Run" "queue" "[I") (List.mem_cons_of_mem _ (List.mem_append_left _ lm1))
  have hl : lv_has ls 2 [(0, .ref (g 23)), (1, .int x)] := hl
  have hK : va_K D vwCl (hT ka) s := hK
  refine lv_aload_n hx hb dX7_enqueue_0 rfl (lv_at hl 0 rfl) ?_
  have bx_1 : (0 : Int) ≤ (i 23 4).toInt ∧ (i 23 4).toInt ≤ 24 := hO 23 4
  refine h_geti (ci := 7) (C := RX7) (F := TX7) (N := 11) hx hb hts in7 hown hK hH (by decide) (rfl : kd 23 = 7) (by decide) rfl 4 (by decide) wd0 (fun _ h9 => h9) (by decide) rfl dX7_enqueue_1 ?_
  refine lv_aload_n hx hb dX7_enqueue_4 rfl (lv_at hl 0 rfl) ?_
  refine h_getr (ci := 7) (C := RX7) (F := TX7) (N := 11) hx hb hts in7 hown hK hH (by decide) (rfl : kd 23 = 7) (by decide) rfl 3 (by decide) wd1 (fun _ h9 => h9) (by decide) rfl (t := 28) (hR 23 3 rfl) (by decide) dX7_enqueue_5 ?_
  refine h_alen (v := 24) hx hb hK hH (by decide) (rfl : kd 28 = 13) (by decide) (by rw [(rfl : ln 28 = 24)]; rfl) dX7_enqueue_8 ?_
  refine lv_icmp_ge (tgt := 32) hx hb dX7_enqueue_9 (by decide) (fun h => absurd h (p_nle (show (24 : Int32).toInt = 24 from rfl) (rfl : (i 23 4).toInt = _) (by omega))) (fun _ => ?_)
  refine lv_aload_n hx hb dX7_enqueue_12 rfl (lv_at hl 0 rfl) ?_
  refine h_getr (ci := 7) (C := RX7) (F := TX7) (N := 11) hx hb hts in7 hown hK hH (by decide) (rfl : kd 23 = 7) (by decide) rfl 3 (by decide) wd1 (fun _ h9 => h9) (by decide) rfl (t := 28) (hR 23 3 rfl) (by decide) dX7_enqueue_13 ?_
  refine lv_aload_n hx hb dX7_enqueue_16 rfl (lv_at hl 0 rfl) ?_
  refine h_geti (ci := 7) (C := RX7) (F := TX7) (N := 11) hx hb hts in7 hown hK hH (by decide) (rfl : kd 23 = 7) (by decide) rfl 4 (by decide) wd0 (fun _ h9 => h9) (by decide) rfl dX7_enqueue_17 ?_
  refine lv_iload_n hx hb dX7_enqueue_20 rfl (lv_at hl 1 rfl) ?_
  have hO_2 := okp hO (n := 28) (k := ((i 23 4).toInt).toNat) (v := x) (show (0 : Int) ≤ (x : Int32).toInt ∧ (x : Int32).toInt ≤ 23 from ⟨by omega, by omega⟩)
  refine h_iast hx hb hK hH hS (by decide) (rfl : kd 28 = 13) (s_vin (N := 24) (rfl : (i 23 4).toInt = _) (rfl : ln 28 = 24) (by omega) (by omega)) dX7_enqueue_21 (fun H locs hH hS => ?_)
  rw [s_cl (show (i 23 4).toInt = (i 23 4).toInt by omega)] at hH
  refine lv_aload_n hx hb dX7_enqueue_22 rfl (lv_at hl 0 rfl) ?_
  refine lv_dup hx hb dX7_enqueue_23 rfl ?_
  refine h_geti (ci := 7) (C := RX7) (F := TX7) (N := 11) hx hb hts in7 hown hK hH (by decide) (rfl : kd 23 = 7) (by decide) rfl 4 (by decide) wd0 (fun _ h9 => h9) (by decide) rfl dX7_enqueue_24 ?_
  refine sj_i (y := (i 23 4)) (congrFun (up2_n _ _ (by decide)) _) ?_
  refine lv_iconst (v := 1) hx hb dX7_enqueue_27 (by decide) ?_
  refine lv_iadd hx hb dX7_enqueue_28 ?_
  obtain ⟨z_3, ez_3, hz_3⟩ := s_add (rfl : (i 23 4).toInt = _) (show (1 : Int32).toInt = 1 from rfl) (by omega) (by omega)
  refine sj_i ez_3 ?_
  have hO_4 := okp hO_2 (n := 23) (k := 4) (v := z_3) (show (0 : Int) ≤ (z_3 : Int32).toInt ∧ (z_3 : Int32).toInt ≤ 24 from ⟨by omega, by omega⟩)
  refine h_puti (ty := .int) (ci := 7) (C := RX7) (F := TX7) (N := 11) hx hb hts in7 tyX7 tyX7_ok nmX7 hown hK hH hS (by decide) (rfl : kd 23 = 7) (by decide) rfl 4 (by decide) wd0 (fun _ h9 => h9) rfl (by decide +kernel) rfl rfl (by decide) rfl dX7_enqueue_29 (fun H locs hH hS => ?_)
  have hq_5 : (up2 (up2 i 28 ((i 23 4).toInt).toNat x) 23 4 z_3) 23 1 = (i 23 1) := ((up2_k _ _ (by decide)).trans (congrFun (up2_n _ _ (by decide)) _))
  have hq_5i := congrArg Int32.toInt hq_5
  have hq_6 : (up2 (up2 i 28 ((i 23 4).toInt).toNat x) 23 4 z_3) 23 2 = (i 23 2) := ((up2_k _ _ (by decide)).trans (congrFun (up2_n _ _ (by decide)) _))
  have hq_6i := congrArg Int32.toInt hq_6
  have hq_7 : (up2 (up2 i 28 ((i 23 4).toInt).toNat x) 23 4 z_3) 23 4 = z_3 := (up2_at _ _ _ _)
  have hq_7i := congrArg Int32.toInt hq_7
  have hq_8 : (up2 (up2 i 28 ((i 23 4).toInt).toNat x) 23 4 z_3) 23 5 = (i 23 5) := ((up2_k _ _ (by decide)).trans (congrFun (up2_n _ _ (by decide)) _))
  have hq_8i := congrArg Int32.toInt hq_8
  have hq_9 : (up2 (up2 i 28 ((i 23 4).toInt).toNat x) 23 4 z_3) 23 6 = (i 23 6) := ((up2_k _ _ (by decide)).trans (congrFun (up2_n _ _ (by decide)) _))
  have hq_9i := congrArg Int32.toInt hq_9
  have hq_10 : (up2 (up2 i 28 ((i 23 4).toInt).toNat x) 23 4 z_3) 23 7 = (i 23 7) := ((up2_k _ _ (by decide)).trans (congrFun (up2_n _ _ (by decide)) _))
  have hq_10i := congrArg Int32.toInt hq_10
  have hq_11 : (up2 (up2 i 28 ((i 23 4).toInt).toNat x) 23 4 z_3) 23 8 = (i 23 8) := ((up2_k _ _ (by decide)).trans (congrFun (up2_n _ _ (by decide)) _))
  have hq_11i := congrArg Int32.toInt hq_11
  have hq_12 : (up2 (up2 i 28 ((i 23 4).toInt).toNat x) 23 4 z_3) 23 10 = (i 23 10) := ((up2_k _ _ (by decide)).trans (congrFun (up2_n _ _ (by decide)) _))
  have hq_12i := congrArg Int32.toInt hq_12
  exact sj_vret hx hb hr hlocks hS (up2 (up2 i 28 ((i 23 4).toInt).toNat x) 23 4 z_3) ⟨hO_4, (fun a ha => ((up2_n _ _ (by omega)).trans (up2_n _ _ (by omega)))), (by first | omega | (refine ⟨?_, ?_, ?_, ?_, ?_, ?_, ?_, ?_⟩ <;> first | assumption | omega)), ((congrFun (up2_n _ _ (by decide)) _).trans (up2_at _ _ _ _)), (fun k hk => (congrFun (up2_n _ _ (by decide)) _).trans (up2_k _ _ hk))⟩ hH (sj_Knil hK) (Nat.le_of_ble_eq_true rfl) (Nat.le_of_ble_eq_true rfl) dX7_enqueue_32
set_option maxHeartbeats 2000000 in
set_option maxRecDepth 100000 in
theorem k_clear (l : Launch) (D : va_G) (g : Nat → Nat) (ka : Nat → ClassId) (ad : Nat → Nat) (i : Nat → Nat → Int32) (r : Nat → Nat → Nat) (L : Nat → Nat → Int64) (d : Nat → Nat → UInt64) (x : Int32) (hO : OkI i) (hR : RS r) (sz : Nat) (hx0 : 0 ≤ x.toInt) (hx1 : x.toInt ≤ 3) : Met l yX7_clear wsX7_clear ({ frames := 0, cells := 0, slots := 0, locals := 0 }) (va_Pc [.ref (g 23), .int x] (sj_B D (hwc g ka i r L d) (hT ka) sz (gx ad (va_A (hwc g ka i r L d) sz)))) (sj_Qv (S := (Nat → Nat → Int32)) D (fun u => OkI u ∧ (∀ a, ¬ (a = 23 ∨ (25 ≤ a ∧ a < 28)) → u a = i a) ∧ ((u 23 1).toInt = x.toInt ∧ (u 23 2).toInt = 0 ∧ (u 23 4).toInt = 0 ∧ (u 23 5).toInt = 0 ∧ (u 23 6).toInt = 0 ∧ (u 23 7).toInt = 0 ∧ (u 23 8).toInt = 1 ∧ (u 23 10).toInt = (i 23 10).toInt ∧ (u 25 1).toInt = (i 25 1).toInt ∧ (u 26 1).toInt = (i 26 1).toInt ∧ (u 27 1).toInt = (i 27 1).toInt)) (fun u => hwc g ka u r L d) (fun _ => []) (va_A (hwc g ka i r L d) sz)) 0 0 (va_A (hwc g ka i r L d) sz) := by
  refine x_met (Ex := gx ad) (cc := cX7_clear) (maxL := 3) (ret := none) (by decide) rfl (Nat.le_of_ble_eq_true rfl) ?_
  intro p e s m below meth c A ls hx hb hr hml hts hown hlocks hA hS hH hK hE hl
  have hown : s.vm.findClass RX7 = some m.cls := hown
  have in7 : ∀ w ∈ wsX70, w ∈ wsX7_clear := (fun _ h => (List.mem_cons_of_mem _ (List.mem_append_left _ (List.mem_append_right _ h))))
  have in10 : ∀ w ∈ wsX100, w ∈ wsX7_clear := (fun _ h => (List.mem_cons_of_mem _ (List.mem_append_right _ h)))
  have wd0 := hts (.fieldLink RX7 29 "StoryDesk$Run" "workerCount" "I") (List.mem_cons_of_mem _ (List.mem_append_left _ (List.mem_append_left _ lm0)))
  have wd1 := hts (.fieldLink RX7 33 "StoryDesk$Run" "turn" "I") (List.mem_cons_of_mem _ (List.mem_append_left _ (List.mem_append_left _ lm1)))
  have wd2 := hts (.fieldLink RX7 36 "StoryDesk$Run" "queued" "I") (List.mem_cons_of_mem _ (List.mem_append_left _ (List.mem_append_left _ lm2)))
  have wd3 := hts (.fieldLink RX7 39 "StoryDesk$Run" "taken" "I") (List.mem_cons_of_mem _ (List.mem_append_left _ (List.mem_append_left _ lm3)))
  have wd4 := hts (.fieldLink RX7 42 "StoryDesk$Run" "over" "I") (List.mem_cons_of_mem _ (List.mem_append_left _ (List.mem_append_left _ lm4)))
  have wd5 := hts (.fieldLink RX7 45 "StoryDesk$Run" "worst" "I") (List.mem_cons_of_mem _ (List.mem_append_left _ (List.mem_append_left _ lm5)))
  have wd6 := hts (.fieldLink RX7 48 "StoryDesk$Run" "underWay" "Z") (List.mem_cons_of_mem _ (List.mem_append_left _ (List.mem_append_left _ lm6)))
  have wd7 := hts (.fieldLink RX7 11 "StoryDesk$Run" "workers" "[LStoryDesk$Worker;") (List.mem_cons_of_mem _ (List.mem_append_left _ (List.mem_append_left _ lm7)))
  have wd8 := hts (.fieldLink RX7 52 "StoryDesk$Worker" "waitedInRun" "I") (List.mem_cons_of_mem _ (List.mem_append_left _ (List.mem_append_left _ lm8)))
  have hl : lv_has ls 3 [(0, .ref (g 23)), (1, .int x)] := hl
  have hK : va_K D vwCl (hT ka) s := hK
  refine lv_aload_n hx hb dX7_clear_0 rfl (lv_at hl 0 rfl) ?_
  refine lv_iload_n hx hb dX7_clear_1 rfl (lv_at hl 1 rfl) ?_
  have hO_1 := okp hO (n := 23) (k := 1) (v := x) (show (0 : Int) ≤ (x : Int32).toInt ∧ (x : Int32).toInt ≤ 3 from ⟨by omega, by omega⟩)
  refine h_puti (ty := .int) (ci := 7) (C := RX7) (F := TX7) (N := 11) hx hb hts in7 tyX7 tyX7_ok nmX7 hown hK hH hS (by decide) (rfl : kd 23 = 7) (by decide) rfl 1 (by decide) wd0 (fun _ h9 => h9) rfl (by decide +kernel) rfl rfl (by decide) rfl dX7_clear_2 (fun H locs hH hS => ?_)
  refine lv_aload_n hx hb dX7_clear_5 rfl (lv_at hl 0 rfl) ?_
  refine lv_iconst (v := 0) hx hb dX7_clear_6 (by decide) ?_
  have hO_2 := okp hO_1 (n := 23) (k := 2) (v := 0) (show (0 : Int) ≤ (0 : Int32).toInt ∧ (0 : Int32).toInt ≤ 2 from ⟨by decide, by decide⟩)
  refine h_puti (ty := .int) (ci := 7) (C := RX7) (F := TX7) (N := 11) hx hb hts in7 tyX7 tyX7_ok nmX7 hown hK hH hS (by decide) (rfl : kd 23 = 7) (by decide) rfl 2 (by decide) wd1 (fun _ h9 => h9) rfl (by decide +kernel) rfl rfl (by decide) rfl dX7_clear_7 (fun H locs hH hS => ?_)
  refine lv_aload_n hx hb dX7_clear_10 rfl (lv_at hl 0 rfl) ?_
  refine lv_iconst (v := 0) hx hb dX7_clear_11 (by decide) ?_
  have hO_3 := okp hO_2 (n := 23) (k := 4) (v := 0) (show (0 : Int) ≤ (0 : Int32).toInt ∧ (0 : Int32).toInt ≤ 24 from ⟨by decide, by decide⟩)
  refine h_puti (ty := .int) (ci := 7) (C := RX7) (F := TX7) (N := 11) hx hb hts in7 tyX7 tyX7_ok nmX7 hown hK hH hS (by decide) (rfl : kd 23 = 7) (by decide) rfl 4 (by decide) wd2 (fun _ h9 => h9) rfl (by decide +kernel) rfl rfl (by decide) rfl dX7_clear_12 (fun H locs hH hS => ?_)
  refine lv_aload_n hx hb dX7_clear_15 rfl (lv_at hl 0 rfl) ?_
  refine lv_iconst (v := 0) hx hb dX7_clear_16 (by decide) ?_
  have hO_4 := okp hO_3 (n := 23) (k := 5) (v := 0) (show (0 : Int) ≤ (0 : Int32).toInt ∧ (0 : Int32).toInt ≤ 24 from ⟨by decide, by decide⟩)
  refine h_puti (ty := .int) (ci := 7) (C := RX7) (F := TX7) (N := 11) hx hb hts in7 tyX7 tyX7_ok nmX7 hown hK hH hS (by decide) (rfl : kd 23 = 7) (by decide) rfl 5 (by decide) wd3 (fun _ h9 => h9) rfl (by decide +kernel) rfl rfl (by decide) rfl dX7_clear_17 (fun H locs hH hS => ?_)
  refine lv_aload_n hx hb dX7_clear_20 rfl (lv_at hl 0 rfl) ?_
  refine lv_iconst (v := 0) hx hb dX7_clear_21 (by decide) ?_
  have hO_5 := okp hO_4 (n := 23) (k := 6) (v := 0) (show (0 : Int) ≤ (0 : Int32).toInt ∧ (0 : Int32).toInt ≤ 24 from ⟨by decide, by decide⟩)
  refine h_puti (ty := .int) (ci := 7) (C := RX7) (F := TX7) (N := 11) hx hb hts in7 tyX7 tyX7_ok nmX7 hown hK hH hS (by decide) (rfl : kd 23 = 7) (by decide) rfl 6 (by decide) wd4 (fun _ h9 => h9) rfl (by decide +kernel) rfl rfl (by decide) rfl dX7_clear_22 (fun H locs hH hS => ?_)
  refine lv_aload_n hx hb dX7_clear_25 rfl (lv_at hl 0 rfl) ?_
  refine lv_iconst (v := 0) hx hb dX7_clear_26 (by decide) ?_
  have hO_6 := okp hO_5 (n := 23) (k := 7) (v := 0) (show (0 : Int) ≤ (0 : Int32).toInt ∧ (0 : Int32).toInt ≤ 5 from ⟨by decide, by decide⟩)
  refine h_puti (ty := .int) (ci := 7) (C := RX7) (F := TX7) (N := 11) hx hb hts in7 tyX7 tyX7_ok nmX7 hown hK hH hS (by decide) (rfl : kd 23 = 7) (by decide) rfl 7 (by decide) wd5 (fun _ h9 => h9) rfl (by decide +kernel) rfl rfl (by decide) rfl dX7_clear_27 (fun H locs hH hS => ?_)
  refine lv_aload_n hx hb dX7_clear_30 rfl (lv_at hl 0 rfl) ?_
  refine lv_iconst (v := 1) hx hb dX7_clear_31 (by decide) ?_
  have hO_7 := okp hO_6 (n := 23) (k := 8) (v := 1) (show (0 : Int) ≤ (1 : Int32).toInt ∧ (1 : Int32).toInt ≤ 1 from ⟨by decide, by decide⟩)
  refine h_puti (ty := .boolean) (ci := 7) (C := RX7) (F := TX7) (N := 11) hx hb hts in7 tyX7 tyX7_ok nmX7 hown hK hH hS (by decide) (rfl : kd 23 = 7) (by decide) rfl 8 (by decide) wd6 (fun _ h9 => h9) rfl (by decide +kernel) (by decide +kernel) (by decide +kernel) (by decide) rfl dX7_clear_32 (fun H locs hH hS => ?_)
  refine lv_iconst (v := 0) hx hb dX7_clear_35 (by decide) ?_
  refine lv_istore_n (lv' := [(2, .int 0), (0, .ref (g 23)), (1, .int x)]) hx hb dX7_clear_36 rfl hl (by decide) rfl (fun ls hl => ?_)
  -- loop at 37
  have lp_8 : ∀ (fuel_lp_8 : Nat) (f : Int32) (j1 : Nat → Nat → Int32) (H : Heap) (locs : List Loc) (ls : Array Slot), (3 - f.toInt).toNat < fuel_lp_8 → (0 : Int) ≤ f.toInt ∧ f.toInt ≤ 3 → (j1 25 1).toInt = (i 25 1).toInt → (j1 26 1).toInt = (i 26 1).toInt → (j1 27 1).toInt = (i 27 1).toInt → OkI j1 → (∀ a, ¬ ((25 ≤ a ∧ a < 28)) → j1 a = (up2 (up2 (up2 (up2 (up2 (up2 (up2 i 23 1 x) 23 2 0) 23 4 0) 23 5 0) 23 6 0) 23 7 0) 23 8 1) a) → lv_has ls 3 [(2, .int f), (0, .ref (g 23)), (1, .int x)] → sj_H D A (hwc g ka j1 r L d) H → va_S A s.heap H locs → W p l e (headSpec wsX7_clear ({ frames := 0, cells := 0, slots := 0, locals := 0 })).room s m ([.ref (g 23), .int x] : List Value).toArray below meth c H locs 0 0 (MQ below (sj_Qv (S := (Nat → Nat → Int32)) D (fun u => OkI u ∧ (∀ a, ¬ (a = 23 ∨ (25 ≤ a ∧ a < 28)) → u a = i a) ∧ ((u 23 1).toInt = x.toInt ∧ (u 23 2).toInt = 0 ∧ (u 23 4).toInt = 0 ∧ (u 23 5).toInt = 0 ∧ (u 23 6).toInt = 0 ∧ (u 23 7).toInt = 0 ∧ (u 23 8).toInt = 1 ∧ (u 23 10).toInt = (i 23 10).toInt ∧ (u 25 1).toInt = (i 25 1).toInt ∧ (u 26 1).toInt = (i 26 1).toInt ∧ (u 27 1).toInt = (i 27 1).toInt)) (fun u => hwc g ka u r L d) (fun _ => []) A) ([.ref (g 23), .int x] : List Value).toArray s 0 0 A) (F0 m 37 ls []) := by
    intro fuel_lp_8
    induction fuel_lp_8 with
    | zero => intros; omega
    | succ fuel_lp_8 ih_lp_8 =>
      intro f j1 H locs ls hm hr_f hi_lp_8_0 hi_lp_8_1 hi_lp_8_2 hO_j1 hfr_j1 hl hH hS
      refine lv_iload_n hx hb dX7_clear_37 rfl (lv_at hl 0 rfl) ?_
      refine lv_aload_n hx hb dX7_clear_38 rfl (lv_at hl 1 rfl) ?_
      refine h_getr (ci := 7) (C := RX7) (F := TX7) (N := 11) hx hb hts in7 hown hK hH (by decide) (rfl : kd 23 = 7) (by decide) rfl 0 (by decide) wd7 (fun _ h9 => h9) (by decide) rfl (t := 24) (hR 23 0 rfl) (by decide) dX7_clear_39 ?_
      refine h_alen (v := 3) hx hb hK hH (by decide) (rfl : kd 24 = 28) (by decide) (by rw [(rfl : ln 24 = 3)]; rfl) dX7_clear_42 ?_
      refine lv_icmp_ge (tgt := 62) hx hb dX7_clear_43 (by decide) (fun c_9 => ?_) (fun c_9 => ?_)
      · skip
        have h_10 := s_le (show (3 : Int32).toInt = 3 from rfl) (rfl : f.toInt = _) c_9
        have hq_11 : j1 23 1 = x := ((congrFun (hfr_j1 23 (by omega)) _).trans ((up2_k _ _ (by decide)).trans ((up2_k _ _ (by decide)).trans ((up2_k _ _ (by decide)).trans ((up2_k _ _ (by decide)).trans ((up2_k _ _ (by decide)).trans ((up2_k _ _ (by decide)).trans (up2_at _ _ _ _))))))))
        have hq_11i := congrArg Int32.toInt hq_11
        have hq_12 : j1 23 2 = 0 := ((congrFun (hfr_j1 23 (by omega)) _).trans ((up2_k _ _ (by decide)).trans ((up2_k _ _ (by decide)).trans ((up2_k _ _ (by decide)).trans ((up2_k _ _ (by decide)).trans ((up2_k _ _ (by decide)).trans (up2_at _ _ _ _)))))))
        have hq_12i := congrArg Int32.toInt hq_12
        have hq_13 : j1 23 4 = 0 := ((congrFun (hfr_j1 23 (by omega)) _).trans ((up2_k _ _ (by decide)).trans ((up2_k _ _ (by decide)).trans ((up2_k _ _ (by decide)).trans ((up2_k _ _ (by decide)).trans (up2_at _ _ _ _))))))
        have hq_13i := congrArg Int32.toInt hq_13
        have hq_14 : j1 23 5 = 0 := ((congrFun (hfr_j1 23 (by omega)) _).trans ((up2_k _ _ (by decide)).trans ((up2_k _ _ (by decide)).trans ((up2_k _ _ (by decide)).trans (up2_at _ _ _ _)))))
        have hq_14i := congrArg Int32.toInt hq_14
        have hq_15 : j1 23 6 = 0 := ((congrFun (hfr_j1 23 (by omega)) _).trans ((up2_k _ _ (by decide)).trans ((up2_k _ _ (by decide)).trans (up2_at _ _ _ _))))
        have hq_15i := congrArg Int32.toInt hq_15
        have hq_16 : j1 23 7 = 0 := ((congrFun (hfr_j1 23 (by omega)) _).trans ((up2_k _ _ (by decide)).trans (up2_at _ _ _ _)))
        have hq_16i := congrArg Int32.toInt hq_16
        have hq_17 : j1 23 8 = 1 := ((congrFun (hfr_j1 23 (by omega)) _).trans (up2_at _ _ _ _))
        have hq_17i := congrArg Int32.toInt hq_17
        have hq_18 : j1 23 10 = (i 23 10) := ((congrFun (hfr_j1 23 (by omega)) _).trans ((up2_k _ _ (by decide)).trans ((up2_k _ _ (by decide)).trans ((up2_k _ _ (by decide)).trans ((up2_k _ _ (by decide)).trans ((up2_k _ _ (by decide)).trans ((up2_k _ _ (by decide)).trans (up2_k _ _ (by decide)))))))))
        have hq_18i := congrArg Int32.toInt hq_18
        have hq_19 : j1 25 1 = (j1 25 1) := rfl
        have hq_19i := congrArg Int32.toInt hq_19
        have hq_20 : j1 26 1 = (j1 26 1) := rfl
        have hq_20i := congrArg Int32.toInt hq_20
        have hq_21 : j1 27 1 = (j1 27 1) := rfl
        have hq_21i := congrArg Int32.toInt hq_21
        exact sj_vret hx hb hr hlocks hS j1 ⟨hO_j1, (fun a ha => ((hfr_j1 a (by omega)).trans ((up2_n _ _ (by omega)).trans ((up2_n _ _ (by omega)).trans ((up2_n _ _ (by omega)).trans ((up2_n _ _ (by omega)).trans ((up2_n _ _ (by omega)).trans ((up2_n _ _ (by omega)).trans (up2_n _ _ (by omega)))))))))), (by first | omega | (refine ⟨?_, ?_, ?_, ?_, ?_, ?_, ?_, ?_, ?_, ?_, ?_⟩ <;> first | assumption | omega))⟩ hH (sj_Knil hK) (Nat.le_of_ble_eq_true rfl) (Nat.le_of_ble_eq_true rfl) dX7_clear_62
      · skip
        have h_22 := s_nle (show (3 : Int32).toInt = 3 from rfl) (rfl : f.toInt = _) c_9
        refine lv_aload_n hx hb dX7_clear_46 rfl (lv_at hl 1 rfl) ?_
        refine h_getr (ci := 7) (C := RX7) (F := TX7) (N := 11) hx hb hts in7 hown hK hH (by decide) (rfl : kd 23 = 7) (by decide) rfl 0 (by decide) wd7 (fun _ h9 => h9) (by decide) rfl (t := 24) (hR 23 0 rfl) (by decide) dX7_clear_47 ?_
        refine lv_iload_n hx hb dX7_clear_50 rfl (lv_at hl 0 rfl) ?_
        obtain ⟨j_23, ej_23, hj_23⟩ : ∃ j : Nat, (f).toNatClampNeg = j ∧ (j : Int) = f.toInt := ⟨_, rfl, by rw [s_cl (rfl : f.toInt = _)]; omega⟩
        have lj_23 : j_23 < 3 := by omega
        refine h_qald hx hb hK hH (by decide) (rfl : kd 24 = 28) (by decide) rfl (s_vin (N := 3) (rfl : f.toInt = _) (rfl : ln 24 = 3) (by omega) (by omega)) (t := (25 + 1 * j_23)) (by rw [ej_23]; exact (hR 24 j_23 rfl)) (lt_nK (by omega)) dX7_clear_51 ?_
        refine lv_iconst (v := 0) hx hb dX7_clear_52 (by decide) ?_
        have hO_24 := okp hO_j1 (n := (25 + 1 * j_23)) (k := 7) (v := 0) (by rw [bx_wk lj_23 7]; exact (show (-2147483648 : Int) ≤ (0 : Int32).toInt ∧ (0 : Int32).toInt ≤ 2147483647 from s_rng 0))
        refine h_puti (ty := .int) (ci := 10) (C := RX10) (F := TX10) (N := 8) hx hb hts in10 tyX10 tyX10_ok nmX10 hown hK hH hS (lt_nK (by omega)) (kd_wk lj_23) (by decide) rfl 7 (by decide) wd8 (fun _ h9 => h9) rfl (by decide +kernel) rfl rfl (by decide) rfl dX7_clear_53 (fun H locs hH hS => ?_)
        obtain ⟨z_25, ez_25, hz_25⟩ := s_add (rfl : f.toInt = _) (show (1 : Int32).toInt = 1 from rfl) (by omega) (by omega)
        refine lv_iinc (v := z_25) (lv' := [(2, .int z_25), (0, .ref (g 23)), (1, .int x)]) hx hb dX7_clear_56 hl (k := 0) rfl ez_25 (by decide) rfl (fun ls hl => ?_)
        refine lv_goto (tgt := 37) hx hb dX7_clear_59 (by decide) ?_
        exact ih_lp_8 z_25 _ _ _ ls (by omega) (by omega) (by rw [(up2_o _ _ (fun h => absurd h.2 (by decide)))]; omega) (by rw [(up2_o _ _ (fun h => absurd h.2 (by decide)))]; omega) (by rw [(up2_o _ _ (fun h => absurd h.2 (by decide)))]; omega) hO_24 (fun a ha => ((up2_n _ _ (by omega)).trans (hfr_j1 a (by omega)))) (lv_sub hl [0, 1, 2] rfl) hH hS
  have hl_26 : (0 : Int32).toInt = 0 := rfl
  exact lp_8 _ 0 _ _ _ ls (Nat.lt_succ_self _) (by omega) (by rw [((congrFun (up2_n _ _ (by decide)) _).trans ((congrFun (up2_n _ _ (by decide)) _).trans ((congrFun (up2_n _ _ (by decide)) _).trans ((congrFun (up2_n _ _ (by decide)) _).trans ((congrFun (up2_n _ _ (by decide)) _).trans ((congrFun (up2_n _ _ (by decide)) _).trans (congrFun (up2_n _ _ (by decide)) _)))))))]) (by rw [((congrFun (up2_n _ _ (by decide)) _).trans ((congrFun (up2_n _ _ (by decide)) _).trans ((congrFun (up2_n _ _ (by decide)) _).trans ((congrFun (up2_n _ _ (by decide)) _).trans ((congrFun (up2_n _ _ (by decide)) _).trans ((congrFun (up2_n _ _ (by decide)) _).trans (congrFun (up2_n _ _ (by decide)) _)))))))]) (by rw [((congrFun (up2_n _ _ (by decide)) _).trans ((congrFun (up2_n _ _ (by decide)) _).trans ((congrFun (up2_n _ _ (by decide)) _).trans ((congrFun (up2_n _ _ (by decide)) _).trans ((congrFun (up2_n _ _ (by decide)) _).trans ((congrFun (up2_n _ _ (by decide)) _).trans (congrFun (up2_n _ _ (by decide)) _)))))))]) hO_7 (fun a ha => rfl) (lv_sub hl [0, 1, 2] rfl) hH hS
set_option maxHeartbeats 2000000 in
set_option maxRecDepth 100000 in
theorem k_takeTurn (l : Launch) (D : va_G) (g : Nat → Nat) (ka : Nat → ClassId) (ad : Nat → Nat) (i : Nat → Nat → Int32) (r : Nat → Nat → Nat) (L : Nat → Nat → Int64) (d : Nat → Nat → UInt64)  (hO : OkI i) (hR : RS r) (sz : Nat) (hc1 : 1 ≤ (i 23 1).toInt) (ht0 : (i 23 2).toInt < (i 23 1).toInt) : Met l yX7_takeTurn wsX7_takeTurn ({ frames := 0, cells := 0, slots := 0, locals := 0 }) (va_Pc [.ref (g 23)] (sj_B D (hwc g ka i r L d) (hT ka) sz (gx ad (va_A (hwc g ka i r L d) sz)))) (sj_Qi (S := (Nat → Nat → Int32)) D (fun v u => OkI u ∧ (∀ a, ¬ (a = 23) → u a = i a) ∧ ((0 : Int) ≤ v.toInt ∧ v.toInt ≤ 2) ∧ (v.toInt < (i 23 1).toInt ∧ (u 23 2).toInt < (i 23 1).toInt ∧ ((i 23 5).toInt < (i 23 4).toInt ∨ (v.toInt = 0 ∧ (i 25 1).toInt ≥ 0) ∨ (v.toInt = 1 ∧ (i 26 1).toInt ≥ 0) ∨ (v.toInt = 2 ∧ (i 27 1).toInt ≥ 0) ∨ ((i 25 1).toInt < 0 ∧ ((i 23 1).toInt ≥ 2 → (i 26 1).toInt < 0) ∧ ((i 23 1).toInt ≥ 3 → (i 27 1).toInt < 0))) ∧ (u 23 1).toInt = (i 23 1).toInt ∧ (u 23 4).toInt = (i 23 4).toInt ∧ (u 23 5).toInt = (i 23 5).toInt ∧ (u 23 6).toInt = (i 23 6).toInt ∧ (u 23 7).toInt = (i 23 7).toInt ∧ (u 23 8).toInt = (i 23 8).toInt ∧ (u 23 10).toInt = (i 23 10).toInt)) (fun u => hwc g ka u r L d) (fun _ => []) (va_A (hwc g ka i r L d) sz)) 0 0 (va_A (hwc g ka i r L d) sz) := by
  refine x_met (Ex := gx ad) (cc := cX7_takeTurn) (maxL := 3) (ret := (some .int)) (by decide) rfl (Nat.le_of_ble_eq_true rfl) ?_
  intro p e s m below meth c A ls hx hb hr hml hts hown hlocks hA hS hH hK hE hl
  have hown : s.vm.findClass RX7 = some m.cls := hown
  have in7 : ∀ w ∈ wsX70, w ∈ wsX7_takeTurn := (fun _ h => (List.mem_cons_of_mem _ (List.mem_append_left _ (List.mem_append_right _ h))))
  have in10 : ∀ w ∈ wsX100, w ∈ wsX7_takeTurn := (fun _ h => (List.mem_cons_of_mem _ (List.mem_append_right _ h)))
  have wd0 := hts (.fieldLink RX7 29 "StoryDesk$Run" "workerCount" "I") (List.mem_cons_of_mem _ (List.mem_append_left _ (List.mem_append_left _ lm0)))
  have wd1 := hts (.fieldLink RX7 33 "StoryDesk$Run" "turn" "I") (List.mem_cons_of_mem _ (List.mem_append_left _ (List.mem_append_left _ lm1)))
  have wd2 := hts (.fieldLink RX7 11 "StoryDesk$Run" "workers" "[LStoryDesk$Worker;") (List.mem_cons_of_mem _ (List.mem_append_left _ (List.mem_append_left _ lm2)))
  have wd3 := hts (.fieldLink RX7 55 "StoryDesk$Worker" "story" "I") (List.mem_cons_of_mem _ (List.mem_append_left _ (List.mem_append_left _ lm3)))
  have wd4 := hts (.fieldLink RX7 39 "StoryDesk$Run" "taken" "I") (List.mem_cons_of_mem _ (List.mem_append_left _ (List.mem_append_left _ lm4)))
  have wd5 := hts (.fieldLink RX7 36 "StoryDesk$Run" "queued" "I") (List.mem_cons_of_mem _ (List.mem_append_left _ (List.mem_append_left _ lm5)))
  have hl : lv_has ls 3 [(0, .ref (g 23))] := hl
  have hK : va_K D vwCl (hT ka) s := hK
  have hbx1 : (0 : Int) ≤ (i 23 1).toInt ∧ (i 23 1).toInt ≤ 3 := hO 23 1
  have hbx2 : (0 : Int) ≤ (i 23 2).toInt ∧ (i 23 2).toInt ≤ 2 := hO 23 2
  rcases (show ((i 23 1).toInt = 1 ∧ (i 23 2).toInt = 0) ∨ ((i 23 1).toInt = 2 ∧ (i 23 2).toInt = 0) ∨ ((i 23 1).toInt = 2 ∧ (i 23 2).toInt = 1) ∨ ((i 23 1).toInt = 3 ∧ (i 23 2).toInt = 0) ∨ ((i 23 1).toInt = 3 ∧ (i 23 2).toInt = 1) ∨ ((i 23 1).toInt = 3 ∧ (i 23 2).toInt = 2) by omega) with ⟨hwc, htn⟩ | ⟨hwc, htn⟩ | ⟨hwc, htn⟩ | ⟨hwc, htn⟩ | ⟨hwc, htn⟩ | ⟨hwc, htn⟩
  · skip
    refine lv_iconst (v := 0) hx hb dX7_takeTurn_0 (by decide) ?_
    refine lv_istore_n (lv' := [(1, .int 0), (0, .ref (g 23))]) hx hb dX7_takeTurn_1 rfl hl (by decide) rfl (fun ls hl => ?_)
    refine lv_iload_n hx hb dX7_takeTurn_2 rfl (lv_at hl 0 rfl) ?_
    refine lv_aload_n hx hb dX7_takeTurn_3 rfl (lv_at hl 1 rfl) ?_
    refine h_geti (ci := 7) (C := RX7) (F := TX7) (N := 11) hx hb hts in7 hown hK hH (by decide) (rfl : kd 23 = 7) (by decide) rfl 1 (by decide) wd0 (fun _ h9 => h9) (by decide) rfl dX7_takeTurn_4 ?_
    refine lv_icmp_ge (tgt := 73) hx hb dX7_takeTurn_7 (by decide) (fun h => absurd h (p_nle (rfl : (i 23 1).toInt = _) (show (0 : Int32).toInt = 0 from rfl) (by omega))) (fun _ => ?_)
    refine lv_aload_n hx hb dX7_takeTurn_10 rfl (lv_at hl 1 rfl) ?_
    refine h_geti (ci := 7) (C := RX7) (F := TX7) (N := 11) hx hb hts in7 hown hK hH (by decide) (rfl : kd 23 = 7) (by decide) rfl 2 (by decide) wd1 (fun _ h9 => h9) (by decide) rfl dX7_takeTurn_11 ?_
    refine lv_istore_n (lv' := [(2, .int (i 23 2)), (1, .int 0), (0, .ref (g 23))]) hx hb dX7_takeTurn_14 rfl hl (by decide) rfl (fun ls hl => ?_)
    refine lv_aload_n hx hb dX7_takeTurn_15 rfl (lv_at hl 2 rfl) ?_
    refine lv_aload_n hx hb dX7_takeTurn_16 rfl (lv_at hl 2 rfl) ?_
    refine h_geti (ci := 7) (C := RX7) (F := TX7) (N := 11) hx hb hts in7 hown hK hH (by decide) (rfl : kd 23 = 7) (by decide) rfl 2 (by decide) wd1 (fun _ h9 => h9) (by decide) rfl dX7_takeTurn_17 ?_
    refine lv_iconst (v := 1) hx hb dX7_takeTurn_20 (by decide) ?_
    refine lv_iadd hx hb dX7_takeTurn_21 ?_
    obtain ⟨z_1, ez_1, hz_1⟩ := s_add (rfl : (i 23 2).toInt = _) (show (1 : Int32).toInt = 1 from rfl) (by omega) (by omega)
    refine sj_i ez_1 ?_
    refine lv_aload_n hx hb dX7_takeTurn_22 rfl (lv_at hl 2 rfl) ?_
    refine h_geti (ci := 7) (C := RX7) (F := TX7) (N := 11) hx hb hts in7 hown hK hH (by decide) (rfl : kd 23 = 7) (by decide) rfl 1 (by decide) wd0 (fun _ h9 => h9) (by decide) rfl dX7_takeTurn_23 ?_
    refine lv_icmp_ge (tgt := 38) hx hb dX7_takeTurn_26 (by decide) (fun _ => ?_) (fun h => absurd (p_le (rfl : (i 23 1).toInt = _) (rfl : z_1.toInt = _) (by omega)) h)
    refine lv_iconst (v := 0) hx hb dX7_takeTurn_38 (by decide) ?_
    have hO_2 := okp hO (n := 23) (k := 2) (v := 0) (show (0 : Int) ≤ (0 : Int32).toInt ∧ (0 : Int32).toInt ≤ 2 from ⟨by decide, by decide⟩)
    refine h_puti (ty := .int) (ci := 7) (C := RX7) (F := TX7) (N := 11) hx hb hts in7 tyX7 tyX7_ok nmX7 hown hK hH hS (by decide) (rfl : kd 23 = 7) (by decide) rfl 2 (by decide) wd1 (fun _ h9 => h9) rfl (by decide +kernel) rfl rfl (by decide) rfl dX7_takeTurn_39 (fun H locs hH hS => ?_)
    refine lv_aload_n hx hb dX7_takeTurn_42 rfl (lv_at hl 2 rfl) ?_
    refine h_getr (ci := 7) (C := RX7) (F := TX7) (N := 11) hx hb hts in7 hown hK hH (by decide) (rfl : kd 23 = 7) (by decide) rfl 0 (by decide) wd2 (fun _ h9 => h9) (by decide) rfl (t := 24) (hR 23 0 rfl) (by decide) dX7_takeTurn_43 ?_
    refine lv_iload_n hx hb dX7_takeTurn_46 rfl (lv_at hl 0 rfl) ?_
    refine h_qald hx hb hK hH (by decide) (rfl : kd 24 = 28) (by decide) rfl (s_vin (N := 3) (rfl : (i 23 2).toInt = _) (rfl : ln 24 = 3) (by omega) (by omega)) (t := 25) (by rw [show ((i 23 2)).toNatClampNeg = 0 by rw [s_cl (rfl : (i 23 2).toInt = _)]; omega]; exact (hR 24 0 rfl)) (by decide) dX7_takeTurn_47 ?_
    have bx_3 : (-1 : Int) ≤ (i 25 1).toInt ∧ (i 25 1).toInt ≤ 23 := hO 25 1
    refine h_geti (ci := 10) (C := RX10) (F := TX10) (N := 8) hx hb hts in10 hown hK hH (by decide) (rfl : kd 25 = 10) (by decide) rfl 1 (by decide) wd3 (fun _ h9 => h9) (by decide) rfl dX7_takeTurn_48 ?_
    refine sj_i (y := (i 25 1)) (congrFun (up2_n _ _ (by decide)) _) ?_
    refine lv_if_ge (tgt := 65) hx hb dX7_takeTurn_51 (by decide) (fun c_4 => ?_) (fun c_4 => ?_)
    · skip
      have h_5 := s_le (show (0 : Int32).toInt = 0 from rfl) (rfl : (i 25 1).toInt = _) c_4
      refine lv_iload_n hx hb dX7_takeTurn_65 rfl (lv_at hl 0 rfl) ?_
      have hz0 : (0 : Int32).toInt = 0 := rfl
      have hz1 : (1 : Int32).toInt = 1 := rfl
      have hz2 : (2 : Int32).toInt = 2 := rfl
      have hw_6 : ((up2 i 23 2 0) 23 1).toInt = ((i 23 1) : Int32).toInt := congrArg Int32.toInt ((up2_k _ _ (by decide)))
      have hw_7 : ((up2 i 23 2 0) 23 2).toInt = (0 : Int32).toInt := congrArg Int32.toInt ((up2_at _ _ _ _))
      have hw_8 : ((up2 i 23 2 0) 23 4).toInt = ((i 23 4) : Int32).toInt := congrArg Int32.toInt ((up2_k _ _ (by decide)))
      have hw_9 : ((up2 i 23 2 0) 23 5).toInt = ((i 23 5) : Int32).toInt := congrArg Int32.toInt ((up2_k _ _ (by decide)))
      have hw_10 : ((up2 i 23 2 0) 23 6).toInt = ((i 23 6) : Int32).toInt := congrArg Int32.toInt ((up2_k _ _ (by decide)))
      have hw_11 : ((up2 i 23 2 0) 23 7).toInt = ((i 23 7) : Int32).toInt := congrArg Int32.toInt ((up2_k _ _ (by decide)))
      have hw_12 : ((up2 i 23 2 0) 23 8).toInt = ((i 23 8) : Int32).toInt := congrArg Int32.toInt ((up2_k _ _ (by decide)))
      have hw_13 : ((up2 i 23 2 0) 23 10).toInt = ((i 23 10) : Int32).toInt := congrArg Int32.toInt ((up2_k _ _ (by decide)))
      exact sj_zret hx hb hr hlocks rfl hS (up2 i 23 2 0) ⟨hO_2, (fun a ha => (up2_n _ _ (by omega))), ⟨by omega, by omega⟩, (by refine ⟨?_, ?_, ?_, ?_, ?_, ?_, ?_, ?_, ?_, ?_⟩ <;> omega)⟩ hH (sj_Knil hK) (Nat.le_of_ble_eq_true rfl) (Nat.le_of_ble_eq_true rfl) dX7_takeTurn_66
    · skip
      have h_14 := s_nle (show (0 : Int32).toInt = 0 from rfl) (rfl : (i 25 1).toInt = _) c_4
      refine lv_aload_n hx hb dX7_takeTurn_54 rfl (lv_at hl 2 rfl) ?_
      have bx_15 : (0 : Int) ≤ (i 23 5).toInt ∧ (i 23 5).toInt ≤ 24 := hO 23 5
      refine h_geti (ci := 7) (C := RX7) (F := TX7) (N := 11) hx hb hts in7 hown hK hH (by decide) (rfl : kd 23 = 7) (by decide) rfl 5 (by decide) wd4 (fun _ h9 => h9) (by decide) rfl dX7_takeTurn_55 ?_
      refine sj_i (y := (i 23 5)) (up2_k _ _ (by decide)) ?_
      refine lv_aload_n hx hb dX7_takeTurn_58 rfl (lv_at hl 2 rfl) ?_
      have bx_16 : (0 : Int) ≤ (i 23 4).toInt ∧ (i 23 4).toInt ≤ 24 := hO 23 4
      refine h_geti (ci := 7) (C := RX7) (F := TX7) (N := 11) hx hb hts in7 hown hK hH (by decide) (rfl : kd 23 = 7) (by decide) rfl 4 (by decide) wd5 (fun _ h9 => h9) (by decide) rfl dX7_takeTurn_59 ?_
      refine sj_i (y := (i 23 4)) (up2_k _ _ (by decide)) ?_
      refine lv_icmp_ge (tgt := 67) hx hb dX7_takeTurn_62 (by decide) (fun c_17 => ?_) (fun c_17 => ?_)
      · skip
        have h_18 := s_le (rfl : (i 23 4).toInt = _) (rfl : (i 23 5).toInt = _) c_17
        refine lv_iinc (v := 1) (lv' := [(1, .int 1), (2, .int (i 23 2)), (0, .ref (g 23))]) hx hb dX7_takeTurn_67 hl (k := 1) rfl (by decide) (by decide) rfl (fun ls hl => ?_)
        refine lv_goto (tgt := 2) hx hb dX7_takeTurn_70 (by decide) ?_
        refine lv_iload_n hx hb dX7_takeTurn_2 rfl (lv_at hl 0 rfl) ?_
        refine lv_aload_n hx hb dX7_takeTurn_3 rfl (lv_at hl 2 rfl) ?_
        refine h_geti (ci := 7) (C := RX7) (F := TX7) (N := 11) hx hb hts in7 hown hK hH (by decide) (rfl : kd 23 = 7) (by decide) rfl 1 (by decide) wd0 (fun _ h9 => h9) (by decide) rfl dX7_takeTurn_4 ?_
        refine sj_i (y := (i 23 1)) (up2_k _ _ (by decide)) ?_
        refine lv_icmp_ge (tgt := 73) hx hb dX7_takeTurn_7 (by decide) (fun _ => ?_) (fun h => absurd (p_le (rfl : (i 23 1).toInt = _) (show (1 : Int32).toInt = 1 from rfl) (by omega)) h)
        refine lv_aload_n hx hb dX7_takeTurn_73 rfl (lv_at hl 2 rfl) ?_
        refine h_geti (ci := 7) (C := RX7) (F := TX7) (N := 11) hx hb hts in7 hown hK hH (by decide) (rfl : kd 23 = 7) (by decide) rfl 2 (by decide) wd1 (fun _ h9 => h9) (by decide) rfl dX7_takeTurn_74 ?_
        refine sj_i (y := 0) (up2_at _ _ _ _) ?_
        have hlv_19 : (0 : Int32).toInt = 0 := rfl
        have hz0 : (0 : Int32).toInt = 0 := rfl
        have hz1 : (1 : Int32).toInt = 1 := rfl
        have hz2 : (2 : Int32).toInt = 2 := rfl
        have hw_20 : ((up2 i 23 2 0) 23 1).toInt = ((i 23 1) : Int32).toInt := congrArg Int32.toInt ((up2_k _ _ (by decide)))
        have hw_21 : ((up2 i 23 2 0) 23 2).toInt = (0 : Int32).toInt := congrArg Int32.toInt ((up2_at _ _ _ _))
        have hw_22 : ((up2 i 23 2 0) 23 4).toInt = ((i 23 4) : Int32).toInt := congrArg Int32.toInt ((up2_k _ _ (by decide)))
        have hw_23 : ((up2 i 23 2 0) 23 5).toInt = ((i 23 5) : Int32).toInt := congrArg Int32.toInt ((up2_k _ _ (by decide)))
        have hw_24 : ((up2 i 23 2 0) 23 6).toInt = ((i 23 6) : Int32).toInt := congrArg Int32.toInt ((up2_k _ _ (by decide)))
        have hw_25 : ((up2 i 23 2 0) 23 7).toInt = ((i 23 7) : Int32).toInt := congrArg Int32.toInt ((up2_k _ _ (by decide)))
        have hw_26 : ((up2 i 23 2 0) 23 8).toInt = ((i 23 8) : Int32).toInt := congrArg Int32.toInt ((up2_k _ _ (by decide)))
        have hw_27 : ((up2 i 23 2 0) 23 10).toInt = ((i 23 10) : Int32).toInt := congrArg Int32.toInt ((up2_k _ _ (by decide)))
        exact sj_zret hx hb hr hlocks rfl hS (up2 i 23 2 0) ⟨hO_2, (fun a ha => (up2_n _ _ (by omega))), ⟨by decide, by decide⟩, (by refine ⟨?_, ?_, ?_, ?_, ?_, ?_, ?_, ?_, ?_, ?_⟩ <;> omega)⟩ hH (sj_Knil hK) (Nat.le_of_ble_eq_true rfl) (Nat.le_of_ble_eq_true rfl) dX7_takeTurn_77
      · skip
        have h_28 := s_nle (rfl : (i 23 4).toInt = _) (rfl : (i 23 5).toInt = _) c_17
        refine lv_iload_n hx hb dX7_takeTurn_65 rfl (lv_at hl 0 rfl) ?_
        have hz0 : (0 : Int32).toInt = 0 := rfl
        have hz1 : (1 : Int32).toInt = 1 := rfl
        have hz2 : (2 : Int32).toInt = 2 := rfl
        have hw_29 : ((up2 i 23 2 0) 23 1).toInt = ((i 23 1) : Int32).toInt := congrArg Int32.toInt ((up2_k _ _ (by decide)))
        have hw_30 : ((up2 i 23 2 0) 23 2).toInt = (0 : Int32).toInt := congrArg Int32.toInt ((up2_at _ _ _ _))
        have hw_31 : ((up2 i 23 2 0) 23 4).toInt = ((i 23 4) : Int32).toInt := congrArg Int32.toInt ((up2_k _ _ (by decide)))
        have hw_32 : ((up2 i 23 2 0) 23 5).toInt = ((i 23 5) : Int32).toInt := congrArg Int32.toInt ((up2_k _ _ (by decide)))
        have hw_33 : ((up2 i 23 2 0) 23 6).toInt = ((i 23 6) : Int32).toInt := congrArg Int32.toInt ((up2_k _ _ (by decide)))
        have hw_34 : ((up2 i 23 2 0) 23 7).toInt = ((i 23 7) : Int32).toInt := congrArg Int32.toInt ((up2_k _ _ (by decide)))
        have hw_35 : ((up2 i 23 2 0) 23 8).toInt = ((i 23 8) : Int32).toInt := congrArg Int32.toInt ((up2_k _ _ (by decide)))
        have hw_36 : ((up2 i 23 2 0) 23 10).toInt = ((i 23 10) : Int32).toInt := congrArg Int32.toInt ((up2_k _ _ (by decide)))
        exact sj_zret hx hb hr hlocks rfl hS (up2 i 23 2 0) ⟨hO_2, (fun a ha => (up2_n _ _ (by omega))), ⟨by omega, by omega⟩, (by refine ⟨?_, ?_, ?_, ?_, ?_, ?_, ?_, ?_, ?_, ?_⟩ <;> omega)⟩ hH (sj_Knil hK) (Nat.le_of_ble_eq_true rfl) (Nat.le_of_ble_eq_true rfl) dX7_takeTurn_66
  · skip
    refine lv_iconst (v := 0) hx hb dX7_takeTurn_0 (by decide) ?_
    refine lv_istore_n (lv' := [(1, .int 0), (0, .ref (g 23))]) hx hb dX7_takeTurn_1 rfl hl (by decide) rfl (fun ls hl => ?_)
    refine lv_iload_n hx hb dX7_takeTurn_2 rfl (lv_at hl 0 rfl) ?_
    refine lv_aload_n hx hb dX7_takeTurn_3 rfl (lv_at hl 1 rfl) ?_
    refine h_geti (ci := 7) (C := RX7) (F := TX7) (N := 11) hx hb hts in7 hown hK hH (by decide) (rfl : kd 23 = 7) (by decide) rfl 1 (by decide) wd0 (fun _ h9 => h9) (by decide) rfl dX7_takeTurn_4 ?_
    refine lv_icmp_ge (tgt := 73) hx hb dX7_takeTurn_7 (by decide) (fun h => absurd h (p_nle (rfl : (i 23 1).toInt = _) (show (0 : Int32).toInt = 0 from rfl) (by omega))) (fun _ => ?_)
    refine lv_aload_n hx hb dX7_takeTurn_10 rfl (lv_at hl 1 rfl) ?_
    refine h_geti (ci := 7) (C := RX7) (F := TX7) (N := 11) hx hb hts in7 hown hK hH (by decide) (rfl : kd 23 = 7) (by decide) rfl 2 (by decide) wd1 (fun _ h9 => h9) (by decide) rfl dX7_takeTurn_11 ?_
    refine lv_istore_n (lv' := [(2, .int (i 23 2)), (1, .int 0), (0, .ref (g 23))]) hx hb dX7_takeTurn_14 rfl hl (by decide) rfl (fun ls hl => ?_)
    refine lv_aload_n hx hb dX7_takeTurn_15 rfl (lv_at hl 2 rfl) ?_
    refine lv_aload_n hx hb dX7_takeTurn_16 rfl (lv_at hl 2 rfl) ?_
    refine h_geti (ci := 7) (C := RX7) (F := TX7) (N := 11) hx hb hts in7 hown hK hH (by decide) (rfl : kd 23 = 7) (by decide) rfl 2 (by decide) wd1 (fun _ h9 => h9) (by decide) rfl dX7_takeTurn_17 ?_
    refine lv_iconst (v := 1) hx hb dX7_takeTurn_20 (by decide) ?_
    refine lv_iadd hx hb dX7_takeTurn_21 ?_
    obtain ⟨z_37, ez_37, hz_37⟩ := s_add (rfl : (i 23 2).toInt = _) (show (1 : Int32).toInt = 1 from rfl) (by omega) (by omega)
    refine sj_i ez_37 ?_
    refine lv_aload_n hx hb dX7_takeTurn_22 rfl (lv_at hl 2 rfl) ?_
    refine h_geti (ci := 7) (C := RX7) (F := TX7) (N := 11) hx hb hts in7 hown hK hH (by decide) (rfl : kd 23 = 7) (by decide) rfl 1 (by decide) wd0 (fun _ h9 => h9) (by decide) rfl dX7_takeTurn_23 ?_
    refine lv_icmp_ge (tgt := 38) hx hb dX7_takeTurn_26 (by decide) (fun h => absurd h (p_nle (rfl : (i 23 1).toInt = _) (rfl : z_37.toInt = _) (by omega))) (fun _ => ?_)
    refine lv_aload_n hx hb dX7_takeTurn_29 rfl (lv_at hl 2 rfl) ?_
    refine h_geti (ci := 7) (C := RX7) (F := TX7) (N := 11) hx hb hts in7 hown hK hH (by decide) (rfl : kd 23 = 7) (by decide) rfl 2 (by decide) wd1 (fun _ h9 => h9) (by decide) rfl dX7_takeTurn_30 ?_
    refine lv_iconst (v := 1) hx hb dX7_takeTurn_33 (by decide) ?_
    refine lv_iadd hx hb dX7_takeTurn_34 ?_
    obtain ⟨z_38, ez_38, hz_38⟩ := s_add (rfl : (i 23 2).toInt = _) (show (1 : Int32).toInt = 1 from rfl) (by omega) (by omega)
    refine sj_i ez_38 ?_
    refine lv_goto (tgt := 39) hx hb dX7_takeTurn_35 (by decide) ?_
    have hO_39 := okp hO (n := 23) (k := 2) (v := z_38) (show (0 : Int) ≤ (z_38 : Int32).toInt ∧ (z_38 : Int32).toInt ≤ 2 from ⟨by omega, by omega⟩)
    refine h_puti (ty := .int) (ci := 7) (C := RX7) (F := TX7) (N := 11) hx hb hts in7 tyX7 tyX7_ok nmX7 hown hK hH hS (by decide) (rfl : kd 23 = 7) (by decide) rfl 2 (by decide) wd1 (fun _ h9 => h9) rfl (by decide +kernel) rfl rfl (by decide) rfl dX7_takeTurn_39 (fun H locs hH hS => ?_)
    refine lv_aload_n hx hb dX7_takeTurn_42 rfl (lv_at hl 2 rfl) ?_
    refine h_getr (ci := 7) (C := RX7) (F := TX7) (N := 11) hx hb hts in7 hown hK hH (by decide) (rfl : kd 23 = 7) (by decide) rfl 0 (by decide) wd2 (fun _ h9 => h9) (by decide) rfl (t := 24) (hR 23 0 rfl) (by decide) dX7_takeTurn_43 ?_
    refine lv_iload_n hx hb dX7_takeTurn_46 rfl (lv_at hl 0 rfl) ?_
    refine h_qald hx hb hK hH (by decide) (rfl : kd 24 = 28) (by decide) rfl (s_vin (N := 3) (rfl : (i 23 2).toInt = _) (rfl : ln 24 = 3) (by omega) (by omega)) (t := 25) (by rw [show ((i 23 2)).toNatClampNeg = 0 by rw [s_cl (rfl : (i 23 2).toInt = _)]; omega]; exact (hR 24 0 rfl)) (by decide) dX7_takeTurn_47 ?_
    have bx_40 : (-1 : Int) ≤ (i 25 1).toInt ∧ (i 25 1).toInt ≤ 23 := hO 25 1
    refine h_geti (ci := 10) (C := RX10) (F := TX10) (N := 8) hx hb hts in10 hown hK hH (by decide) (rfl : kd 25 = 10) (by decide) rfl 1 (by decide) wd3 (fun _ h9 => h9) (by decide) rfl dX7_takeTurn_48 ?_
    refine sj_i (y := (i 25 1)) (congrFun (up2_n _ _ (by decide)) _) ?_
    refine lv_if_ge (tgt := 65) hx hb dX7_takeTurn_51 (by decide) (fun c_41 => ?_) (fun c_41 => ?_)
    · skip
      have h_42 := s_le (show (0 : Int32).toInt = 0 from rfl) (rfl : (i 25 1).toInt = _) c_41
      refine lv_iload_n hx hb dX7_takeTurn_65 rfl (lv_at hl 0 rfl) ?_
      have hz0 : (0 : Int32).toInt = 0 := rfl
      have hz1 : (1 : Int32).toInt = 1 := rfl
      have hz2 : (2 : Int32).toInt = 2 := rfl
      have hw_43 : ((up2 i 23 2 z_38) 23 1).toInt = ((i 23 1) : Int32).toInt := congrArg Int32.toInt ((up2_k _ _ (by decide)))
      have hw_44 : ((up2 i 23 2 z_38) 23 2).toInt = (z_38 : Int32).toInt := congrArg Int32.toInt ((up2_at _ _ _ _))
      have hw_45 : ((up2 i 23 2 z_38) 23 4).toInt = ((i 23 4) : Int32).toInt := congrArg Int32.toInt ((up2_k _ _ (by decide)))
      have hw_46 : ((up2 i 23 2 z_38) 23 5).toInt = ((i 23 5) : Int32).toInt := congrArg Int32.toInt ((up2_k _ _ (by decide)))
      have hw_47 : ((up2 i 23 2 z_38) 23 6).toInt = ((i 23 6) : Int32).toInt := congrArg Int32.toInt ((up2_k _ _ (by decide)))
      have hw_48 : ((up2 i 23 2 z_38) 23 7).toInt = ((i 23 7) : Int32).toInt := congrArg Int32.toInt ((up2_k _ _ (by decide)))
      have hw_49 : ((up2 i 23 2 z_38) 23 8).toInt = ((i 23 8) : Int32).toInt := congrArg Int32.toInt ((up2_k _ _ (by decide)))
      have hw_50 : ((up2 i 23 2 z_38) 23 10).toInt = ((i 23 10) : Int32).toInt := congrArg Int32.toInt ((up2_k _ _ (by decide)))
      exact sj_zret hx hb hr hlocks rfl hS (up2 i 23 2 z_38) ⟨hO_39, (fun a ha => (up2_n _ _ (by omega))), ⟨by omega, by omega⟩, (by refine ⟨?_, ?_, ?_, ?_, ?_, ?_, ?_, ?_, ?_, ?_⟩ <;> omega)⟩ hH (sj_Knil hK) (Nat.le_of_ble_eq_true rfl) (Nat.le_of_ble_eq_true rfl) dX7_takeTurn_66
    · skip
      have h_51 := s_nle (show (0 : Int32).toInt = 0 from rfl) (rfl : (i 25 1).toInt = _) c_41
      refine lv_aload_n hx hb dX7_takeTurn_54 rfl (lv_at hl 2 rfl) ?_
      have bx_52 : (0 : Int) ≤ (i 23 5).toInt ∧ (i 23 5).toInt ≤ 24 := hO 23 5
      refine h_geti (ci := 7) (C := RX7) (F := TX7) (N := 11) hx hb hts in7 hown hK hH (by decide) (rfl : kd 23 = 7) (by decide) rfl 5 (by decide) wd4 (fun _ h9 => h9) (by decide) rfl dX7_takeTurn_55 ?_
      refine sj_i (y := (i 23 5)) (up2_k _ _ (by decide)) ?_
      refine lv_aload_n hx hb dX7_takeTurn_58 rfl (lv_at hl 2 rfl) ?_
      have bx_53 : (0 : Int) ≤ (i 23 4).toInt ∧ (i 23 4).toInt ≤ 24 := hO 23 4
      refine h_geti (ci := 7) (C := RX7) (F := TX7) (N := 11) hx hb hts in7 hown hK hH (by decide) (rfl : kd 23 = 7) (by decide) rfl 4 (by decide) wd5 (fun _ h9 => h9) (by decide) rfl dX7_takeTurn_59 ?_
      refine sj_i (y := (i 23 4)) (up2_k _ _ (by decide)) ?_
      refine lv_icmp_ge (tgt := 67) hx hb dX7_takeTurn_62 (by decide) (fun c_54 => ?_) (fun c_54 => ?_)
      · skip
        have h_55 := s_le (rfl : (i 23 4).toInt = _) (rfl : (i 23 5).toInt = _) c_54
        refine lv_iinc (v := 1) (lv' := [(1, .int 1), (2, .int (i 23 2)), (0, .ref (g 23))]) hx hb dX7_takeTurn_67 hl (k := 1) rfl (by decide) (by decide) rfl (fun ls hl => ?_)
        refine lv_goto (tgt := 2) hx hb dX7_takeTurn_70 (by decide) ?_
        refine lv_iload_n hx hb dX7_takeTurn_2 rfl (lv_at hl 0 rfl) ?_
        refine lv_aload_n hx hb dX7_takeTurn_3 rfl (lv_at hl 2 rfl) ?_
        refine h_geti (ci := 7) (C := RX7) (F := TX7) (N := 11) hx hb hts in7 hown hK hH (by decide) (rfl : kd 23 = 7) (by decide) rfl 1 (by decide) wd0 (fun _ h9 => h9) (by decide) rfl dX7_takeTurn_4 ?_
        refine sj_i (y := (i 23 1)) (up2_k _ _ (by decide)) ?_
        refine lv_icmp_ge (tgt := 73) hx hb dX7_takeTurn_7 (by decide) (fun h => absurd h (p_nle (rfl : (i 23 1).toInt = _) (show (1 : Int32).toInt = 1 from rfl) (by omega))) (fun _ => ?_)
        refine lv_aload_n hx hb dX7_takeTurn_10 rfl (lv_at hl 2 rfl) ?_
        refine h_geti (ci := 7) (C := RX7) (F := TX7) (N := 11) hx hb hts in7 hown hK hH (by decide) (rfl : kd 23 = 7) (by decide) rfl 2 (by decide) wd1 (fun _ h9 => h9) (by decide) rfl dX7_takeTurn_11 ?_
        refine sj_i (y := z_38) (up2_at _ _ _ _) ?_
        refine lv_istore_n (lv' := [(2, .int z_38), (1, .int 1), (0, .ref (g 23))]) hx hb dX7_takeTurn_14 rfl hl (by decide) rfl (fun ls hl => ?_)
        refine lv_aload_n hx hb dX7_takeTurn_15 rfl (lv_at hl 2 rfl) ?_
        refine lv_aload_n hx hb dX7_takeTurn_16 rfl (lv_at hl 2 rfl) ?_
        refine h_geti (ci := 7) (C := RX7) (F := TX7) (N := 11) hx hb hts in7 hown hK hH (by decide) (rfl : kd 23 = 7) (by decide) rfl 2 (by decide) wd1 (fun _ h9 => h9) (by decide) rfl dX7_takeTurn_17 ?_
        refine sj_i (y := z_38) (up2_at _ _ _ _) ?_
        refine lv_iconst (v := 1) hx hb dX7_takeTurn_20 (by decide) ?_
        refine lv_iadd hx hb dX7_takeTurn_21 ?_
        obtain ⟨z_56, ez_56, hz_56⟩ := s_add (rfl : z_38.toInt = _) (show (1 : Int32).toInt = 1 from rfl) (by omega) (by omega)
        refine sj_i ez_56 ?_
        refine lv_aload_n hx hb dX7_takeTurn_22 rfl (lv_at hl 2 rfl) ?_
        refine h_geti (ci := 7) (C := RX7) (F := TX7) (N := 11) hx hb hts in7 hown hK hH (by decide) (rfl : kd 23 = 7) (by decide) rfl 1 (by decide) wd0 (fun _ h9 => h9) (by decide) rfl dX7_takeTurn_23 ?_
        refine sj_i (y := (i 23 1)) (up2_k _ _ (by decide)) ?_
        refine lv_icmp_ge (tgt := 38) hx hb dX7_takeTurn_26 (by decide) (fun _ => ?_) (fun h => absurd (p_le (rfl : (i 23 1).toInt = _) (rfl : z_56.toInt = _) (by omega)) h)
        refine lv_iconst (v := 0) hx hb dX7_takeTurn_38 (by decide) ?_
        have hO_57 := okp hO_39 (n := 23) (k := 2) (v := 0) (show (0 : Int) ≤ (0 : Int32).toInt ∧ (0 : Int32).toInt ≤ 2 from ⟨by decide, by decide⟩)
        refine h_puti (ty := .int) (ci := 7) (C := RX7) (F := TX7) (N := 11) hx hb hts in7 tyX7 tyX7_ok nmX7 hown hK hH hS (by decide) (rfl : kd 23 = 7) (by decide) rfl 2 (by decide) wd1 (fun _ h9 => h9) rfl (by decide +kernel) rfl rfl (by decide) rfl dX7_takeTurn_39 (fun H locs hH hS => ?_)
        refine lv_aload_n hx hb dX7_takeTurn_42 rfl (lv_at hl 2 rfl) ?_
        refine h_getr (ci := 7) (C := RX7) (F := TX7) (N := 11) hx hb hts in7 hown hK hH (by decide) (rfl : kd 23 = 7) (by decide) rfl 0 (by decide) wd2 (fun _ h9 => h9) (by decide) rfl (t := 24) (hR 23 0 rfl) (by decide) dX7_takeTurn_43 ?_
        refine lv_iload_n hx hb dX7_takeTurn_46 rfl (lv_at hl 0 rfl) ?_
        refine h_qald hx hb hK hH (by decide) (rfl : kd 24 = 28) (by decide) rfl (s_vin (N := 3) (rfl : z_38.toInt = _) (rfl : ln 24 = 3) (by omega) (by omega)) (t := 26) (by rw [show (z_38).toNatClampNeg = 1 by rw [s_cl (rfl : z_38.toInt = _)]; omega]; exact (hR 24 1 rfl)) (by decide) dX7_takeTurn_47 ?_
        have bx_58 : (-1 : Int) ≤ (i 26 1).toInt ∧ (i 26 1).toInt ≤ 23 := hO 26 1
        refine h_geti (ci := 10) (C := RX10) (F := TX10) (N := 8) hx hb hts in10 hown hK hH (by decide) (rfl : kd 26 = 10) (by decide) rfl 1 (by decide) wd3 (fun _ h9 => h9) (by decide) rfl dX7_takeTurn_48 ?_
        refine sj_i (y := (i 26 1)) ((congrFun (up2_n _ _ (by decide)) _).trans (congrFun (up2_n _ _ (by decide)) _)) ?_
        refine lv_if_ge (tgt := 65) hx hb dX7_takeTurn_51 (by decide) (fun c_59 => ?_) (fun c_59 => ?_)
        · skip
          have h_60 := s_le (show (0 : Int32).toInt = 0 from rfl) (rfl : (i 26 1).toInt = _) c_59
          refine lv_iload_n hx hb dX7_takeTurn_65 rfl (lv_at hl 0 rfl) ?_
          have hz0 : (0 : Int32).toInt = 0 := rfl
          have hz1 : (1 : Int32).toInt = 1 := rfl
          have hz2 : (2 : Int32).toInt = 2 := rfl
          have hw_61 : ((up2 (up2 i 23 2 z_38) 23 2 0) 23 1).toInt = ((i 23 1) : Int32).toInt := congrArg Int32.toInt (((up2_k _ _ (by decide)).trans (up2_k _ _ (by decide))))
          have hw_62 : ((up2 (up2 i 23 2 z_38) 23 2 0) 23 2).toInt = (0 : Int32).toInt := congrArg Int32.toInt ((up2_at _ _ _ _))
          have hw_63 : ((up2 (up2 i 23 2 z_38) 23 2 0) 23 4).toInt = ((i 23 4) : Int32).toInt := congrArg Int32.toInt (((up2_k _ _ (by decide)).trans (up2_k _ _ (by decide))))
          have hw_64 : ((up2 (up2 i 23 2 z_38) 23 2 0) 23 5).toInt = ((i 23 5) : Int32).toInt := congrArg Int32.toInt (((up2_k _ _ (by decide)).trans (up2_k _ _ (by decide))))
          have hw_65 : ((up2 (up2 i 23 2 z_38) 23 2 0) 23 6).toInt = ((i 23 6) : Int32).toInt := congrArg Int32.toInt (((up2_k _ _ (by decide)).trans (up2_k _ _ (by decide))))
          have hw_66 : ((up2 (up2 i 23 2 z_38) 23 2 0) 23 7).toInt = ((i 23 7) : Int32).toInt := congrArg Int32.toInt (((up2_k _ _ (by decide)).trans (up2_k _ _ (by decide))))
          have hw_67 : ((up2 (up2 i 23 2 z_38) 23 2 0) 23 8).toInt = ((i 23 8) : Int32).toInt := congrArg Int32.toInt (((up2_k _ _ (by decide)).trans (up2_k _ _ (by decide))))
          have hw_68 : ((up2 (up2 i 23 2 z_38) 23 2 0) 23 10).toInt = ((i 23 10) : Int32).toInt := congrArg Int32.toInt (((up2_k _ _ (by decide)).trans (up2_k _ _ (by decide))))
          exact sj_zret hx hb hr hlocks rfl hS (up2 (up2 i 23 2 z_38) 23 2 0) ⟨hO_57, (fun a ha => ((up2_n _ _ (by omega)).trans (up2_n _ _ (by omega)))), ⟨by omega, by omega⟩, (by refine ⟨?_, ?_, ?_, ?_, ?_, ?_, ?_, ?_, ?_, ?_⟩ <;> omega)⟩ hH (sj_Knil hK) (Nat.le_of_ble_eq_true rfl) (Nat.le_of_ble_eq_true rfl) dX7_takeTurn_66
        · skip
          have h_69 := s_nle (show (0 : Int32).toInt = 0 from rfl) (rfl : (i 26 1).toInt = _) c_59
          refine lv_aload_n hx hb dX7_takeTurn_54 rfl (lv_at hl 2 rfl) ?_
          refine h_geti (ci := 7) (C := RX7) (F := TX7) (N := 11) hx hb hts in7 hown hK hH (by decide) (rfl : kd 23 = 7) (by decide) rfl 5 (by decide) wd4 (fun _ h9 => h9) (by decide) rfl dX7_takeTurn_55 ?_
          refine sj_i (y := (i 23 5)) ((up2_k _ _ (by decide)).trans (up2_k _ _ (by decide))) ?_
          refine lv_aload_n hx hb dX7_takeTurn_58 rfl (lv_at hl 2 rfl) ?_
          refine h_geti (ci := 7) (C := RX7) (F := TX7) (N := 11) hx hb hts in7 hown hK hH (by decide) (rfl : kd 23 = 7) (by decide) rfl 4 (by decide) wd5 (fun _ h9 => h9) (by decide) rfl dX7_takeTurn_59 ?_
          refine sj_i (y := (i 23 4)) ((up2_k _ _ (by decide)).trans (up2_k _ _ (by decide))) ?_
          refine lv_icmp_ge (tgt := 67) hx hb dX7_takeTurn_62 (by decide) (fun c_70 => ?_) (fun c_70 => ?_)
          · skip
            have h_71 := s_le (rfl : (i 23 4).toInt = _) (rfl : (i 23 5).toInt = _) c_70
            refine lv_iinc (v := 2) (lv' := [(1, .int 2), (2, .int z_38), (0, .ref (g 23))]) hx hb dX7_takeTurn_67 hl (k := 1) rfl (by decide) (by decide) rfl (fun ls hl => ?_)
            refine lv_goto (tgt := 2) hx hb dX7_takeTurn_70 (by decide) ?_
            refine lv_iload_n hx hb dX7_takeTurn_2 rfl (lv_at hl 0 rfl) ?_
            refine lv_aload_n hx hb dX7_takeTurn_3 rfl (lv_at hl 2 rfl) ?_
            refine h_geti (ci := 7) (C := RX7) (F := TX7) (N := 11) hx hb hts in7 hown hK hH (by decide) (rfl : kd 23 = 7) (by decide) rfl 1 (by decide) wd0 (fun _ h9 => h9) (by decide) rfl dX7_takeTurn_4 ?_
            refine sj_i (y := (i 23 1)) ((up2_k _ _ (by decide)).trans (up2_k _ _ (by decide))) ?_
            refine lv_icmp_ge (tgt := 73) hx hb dX7_takeTurn_7 (by decide) (fun _ => ?_) (fun h => absurd (p_le (rfl : (i 23 1).toInt = _) (show (2 : Int32).toInt = 2 from rfl) (by omega)) h)
            refine lv_aload_n hx hb dX7_takeTurn_73 rfl (lv_at hl 2 rfl) ?_
            refine h_geti (ci := 7) (C := RX7) (F := TX7) (N := 11) hx hb hts in7 hown hK hH (by decide) (rfl : kd 23 = 7) (by decide) rfl 2 (by decide) wd1 (fun _ h9 => h9) (by decide) rfl dX7_takeTurn_74 ?_
            refine sj_i (y := 0) (up2_at _ _ _ _) ?_
            have hlv_72 : (0 : Int32).toInt = 0 := rfl
            have hz0 : (0 : Int32).toInt = 0 := rfl
            have hz1 : (1 : Int32).toInt = 1 := rfl
            have hz2 : (2 : Int32).toInt = 2 := rfl
            have hw_73 : ((up2 (up2 i 23 2 z_38) 23 2 0) 23 1).toInt = ((i 23 1) : Int32).toInt := congrArg Int32.toInt (((up2_k _ _ (by decide)).trans (up2_k _ _ (by decide))))
            have hw_74 : ((up2 (up2 i 23 2 z_38) 23 2 0) 23 2).toInt = (0 : Int32).toInt := congrArg Int32.toInt ((up2_at _ _ _ _))
            have hw_75 : ((up2 (up2 i 23 2 z_38) 23 2 0) 23 4).toInt = ((i 23 4) : Int32).toInt := congrArg Int32.toInt (((up2_k _ _ (by decide)).trans (up2_k _ _ (by decide))))
            have hw_76 : ((up2 (up2 i 23 2 z_38) 23 2 0) 23 5).toInt = ((i 23 5) : Int32).toInt := congrArg Int32.toInt (((up2_k _ _ (by decide)).trans (up2_k _ _ (by decide))))
            have hw_77 : ((up2 (up2 i 23 2 z_38) 23 2 0) 23 6).toInt = ((i 23 6) : Int32).toInt := congrArg Int32.toInt (((up2_k _ _ (by decide)).trans (up2_k _ _ (by decide))))
            have hw_78 : ((up2 (up2 i 23 2 z_38) 23 2 0) 23 7).toInt = ((i 23 7) : Int32).toInt := congrArg Int32.toInt (((up2_k _ _ (by decide)).trans (up2_k _ _ (by decide))))
            have hw_79 : ((up2 (up2 i 23 2 z_38) 23 2 0) 23 8).toInt = ((i 23 8) : Int32).toInt := congrArg Int32.toInt (((up2_k _ _ (by decide)).trans (up2_k _ _ (by decide))))
            have hw_80 : ((up2 (up2 i 23 2 z_38) 23 2 0) 23 10).toInt = ((i 23 10) : Int32).toInt := congrArg Int32.toInt (((up2_k _ _ (by decide)).trans (up2_k _ _ (by decide))))
            exact sj_zret hx hb hr hlocks rfl hS (up2 (up2 i 23 2 z_38) 23 2 0) ⟨hO_57, (fun a ha => ((up2_n _ _ (by omega)).trans (up2_n _ _ (by omega)))), ⟨by decide, by decide⟩, (by refine ⟨?_, ?_, ?_, ?_, ?_, ?_, ?_, ?_, ?_, ?_⟩ <;> omega)⟩ hH (sj_Knil hK) (Nat.le_of_ble_eq_true rfl) (Nat.le_of_ble_eq_true rfl) dX7_takeTurn_77
          · skip
            have h_81 := s_nle (rfl : (i 23 4).toInt = _) (rfl : (i 23 5).toInt = _) c_70
            refine lv_iload_n hx hb dX7_takeTurn_65 rfl (lv_at hl 0 rfl) ?_
            have hz0 : (0 : Int32).toInt = 0 := rfl
            have hz1 : (1 : Int32).toInt = 1 := rfl
            have hz2 : (2 : Int32).toInt = 2 := rfl
            have hw_82 : ((up2 (up2 i 23 2 z_38) 23 2 0) 23 1).toInt = ((i 23 1) : Int32).toInt := congrArg Int32.toInt (((up2_k _ _ (by decide)).trans (up2_k _ _ (by decide))))
            have hw_83 : ((up2 (up2 i 23 2 z_38) 23 2 0) 23 2).toInt = (0 : Int32).toInt := congrArg Int32.toInt ((up2_at _ _ _ _))
            have hw_84 : ((up2 (up2 i 23 2 z_38) 23 2 0) 23 4).toInt = ((i 23 4) : Int32).toInt := congrArg Int32.toInt (((up2_k _ _ (by decide)).trans (up2_k _ _ (by decide))))
            have hw_85 : ((up2 (up2 i 23 2 z_38) 23 2 0) 23 5).toInt = ((i 23 5) : Int32).toInt := congrArg Int32.toInt (((up2_k _ _ (by decide)).trans (up2_k _ _ (by decide))))
            have hw_86 : ((up2 (up2 i 23 2 z_38) 23 2 0) 23 6).toInt = ((i 23 6) : Int32).toInt := congrArg Int32.toInt (((up2_k _ _ (by decide)).trans (up2_k _ _ (by decide))))
            have hw_87 : ((up2 (up2 i 23 2 z_38) 23 2 0) 23 7).toInt = ((i 23 7) : Int32).toInt := congrArg Int32.toInt (((up2_k _ _ (by decide)).trans (up2_k _ _ (by decide))))
            have hw_88 : ((up2 (up2 i 23 2 z_38) 23 2 0) 23 8).toInt = ((i 23 8) : Int32).toInt := congrArg Int32.toInt (((up2_k _ _ (by decide)).trans (up2_k _ _ (by decide))))
            have hw_89 : ((up2 (up2 i 23 2 z_38) 23 2 0) 23 10).toInt = ((i 23 10) : Int32).toInt := congrArg Int32.toInt (((up2_k _ _ (by decide)).trans (up2_k _ _ (by decide))))
            exact sj_zret hx hb hr hlocks rfl hS (up2 (up2 i 23 2 z_38) 23 2 0) ⟨hO_57, (fun a ha => ((up2_n _ _ (by omega)).trans (up2_n _ _ (by omega)))), ⟨by omega, by omega⟩, (by refine ⟨?_, ?_, ?_, ?_, ?_, ?_, ?_, ?_, ?_, ?_⟩ <;> omega)⟩ hH (sj_Knil hK) (Nat.le_of_ble_eq_true rfl) (Nat.le_of_ble_eq_true rfl) dX7_takeTurn_66
      · skip
        have h_90 := s_nle (rfl : (i 23 4).toInt = _) (rfl : (i 23 5).toInt = _) c_54
        refine lv_iload_n hx hb dX7_takeTurn_65 rfl (lv_at hl 0 rfl) ?_
        have hz0 : (0 : Int32).toInt = 0 := rfl
        have hz1 : (1 : Int32).toInt = 1 := rfl
        have hz2 : (2 : Int32).toInt = 2 := rfl
        have hw_91 : ((up2 i 23 2 z_38) 23 1).toInt = ((i 23 1) : Int32).toInt := congrArg Int32.toInt ((up2_k _ _ (by decide)))
        have hw_92 : ((up2 i 23 2 z_38) 23 2).toInt = (z_38 : Int32).toInt := congrArg Int32.toInt ((up2_at _ _ _ _))
        have hw_93 : ((up2 i 23 2 z_38) 23 4).toInt = ((i 23 4) : Int32).toInt := congrArg Int32.toInt ((up2_k _ _ (by decide)))
        have hw_94 : ((up2 i 23 2 z_38) 23 5).toInt = ((i 23 5) : Int32).toInt := congrArg Int32.toInt ((up2_k _ _ (by decide)))
        have hw_95 : ((up2 i 23 2 z_38) 23 6).toInt = ((i 23 6) : Int32).toInt := congrArg Int32.toInt ((up2_k _ _ (by decide)))
        have hw_96 : ((up2 i 23 2 z_38) 23 7).toInt = ((i 23 7) : Int32).toInt := congrArg Int32.toInt ((up2_k _ _ (by decide)))
        have hw_97 : ((up2 i 23 2 z_38) 23 8).toInt = ((i 23 8) : Int32).toInt := congrArg Int32.toInt ((up2_k _ _ (by decide)))
        have hw_98 : ((up2 i 23 2 z_38) 23 10).toInt = ((i 23 10) : Int32).toInt := congrArg Int32.toInt ((up2_k _ _ (by decide)))
        exact sj_zret hx hb hr hlocks rfl hS (up2 i 23 2 z_38) ⟨hO_39, (fun a ha => (up2_n _ _ (by omega))), ⟨by omega, by omega⟩, (by refine ⟨?_, ?_, ?_, ?_, ?_, ?_, ?_, ?_, ?_, ?_⟩ <;> omega)⟩ hH (sj_Knil hK) (Nat.le_of_ble_eq_true rfl) (Nat.le_of_ble_eq_true rfl) dX7_takeTurn_66
  · skip
    refine lv_iconst (v := 0) hx hb dX7_takeTurn_0 (by decide) ?_
    refine lv_istore_n (lv' := [(1, .int 0), (0, .ref (g 23))]) hx hb dX7_takeTurn_1 rfl hl (by decide) rfl (fun ls hl => ?_)
    refine lv_iload_n hx hb dX7_takeTurn_2 rfl (lv_at hl 0 rfl) ?_
    refine lv_aload_n hx hb dX7_takeTurn_3 rfl (lv_at hl 1 rfl) ?_
    refine h_geti (ci := 7) (C := RX7) (F := TX7) (N := 11) hx hb hts in7 hown hK hH (by decide) (rfl : kd 23 = 7) (by decide) rfl 1 (by decide) wd0 (fun _ h9 => h9) (by decide) rfl dX7_takeTurn_4 ?_
    refine lv_icmp_ge (tgt := 73) hx hb dX7_takeTurn_7 (by decide) (fun h => absurd h (p_nle (rfl : (i 23 1).toInt = _) (show (0 : Int32).toInt = 0 from rfl) (by omega))) (fun _ => ?_)
    refine lv_aload_n hx hb dX7_takeTurn_10 rfl (lv_at hl 1 rfl) ?_
    refine h_geti (ci := 7) (C := RX7) (F := TX7) (N := 11) hx hb hts in7 hown hK hH (by decide) (rfl : kd 23 = 7) (by decide) rfl 2 (by decide) wd1 (fun _ h9 => h9) (by decide) rfl dX7_takeTurn_11 ?_
    refine lv_istore_n (lv' := [(2, .int (i 23 2)), (1, .int 0), (0, .ref (g 23))]) hx hb dX7_takeTurn_14 rfl hl (by decide) rfl (fun ls hl => ?_)
    refine lv_aload_n hx hb dX7_takeTurn_15 rfl (lv_at hl 2 rfl) ?_
    refine lv_aload_n hx hb dX7_takeTurn_16 rfl (lv_at hl 2 rfl) ?_
    refine h_geti (ci := 7) (C := RX7) (F := TX7) (N := 11) hx hb hts in7 hown hK hH (by decide) (rfl : kd 23 = 7) (by decide) rfl 2 (by decide) wd1 (fun _ h9 => h9) (by decide) rfl dX7_takeTurn_17 ?_
    refine lv_iconst (v := 1) hx hb dX7_takeTurn_20 (by decide) ?_
    refine lv_iadd hx hb dX7_takeTurn_21 ?_
    obtain ⟨z_99, ez_99, hz_99⟩ := s_add (rfl : (i 23 2).toInt = _) (show (1 : Int32).toInt = 1 from rfl) (by omega) (by omega)
    refine sj_i ez_99 ?_
    refine lv_aload_n hx hb dX7_takeTurn_22 rfl (lv_at hl 2 rfl) ?_
    refine h_geti (ci := 7) (C := RX7) (F := TX7) (N := 11) hx hb hts in7 hown hK hH (by decide) (rfl : kd 23 = 7) (by decide) rfl 1 (by decide) wd0 (fun _ h9 => h9) (by decide) rfl dX7_takeTurn_23 ?_
    refine lv_icmp_ge (tgt := 38) hx hb dX7_takeTurn_26 (by decide) (fun _ => ?_) (fun h => absurd (p_le (rfl : (i 23 1).toInt = _) (rfl : z_99.toInt = _) (by omega)) h)
    refine lv_iconst (v := 0) hx hb dX7_takeTurn_38 (by decide) ?_
    have hO_100 := okp hO (n := 23) (k := 2) (v := 0) (show (0 : Int) ≤ (0 : Int32).toInt ∧ (0 : Int32).toInt ≤ 2 from ⟨by decide, by decide⟩)
    refine h_puti (ty := .int) (ci := 7) (C := RX7) (F := TX7) (N := 11) hx hb hts in7 tyX7 tyX7_ok nmX7 hown hK hH hS (by decide) (rfl : kd 23 = 7) (by decide) rfl 2 (by decide) wd1 (fun _ h9 => h9) rfl (by decide +kernel) rfl rfl (by decide) rfl dX7_takeTurn_39 (fun H locs hH hS => ?_)
    refine lv_aload_n hx hb dX7_takeTurn_42 rfl (lv_at hl 2 rfl) ?_
    refine h_getr (ci := 7) (C := RX7) (F := TX7) (N := 11) hx hb hts in7 hown hK hH (by decide) (rfl : kd 23 = 7) (by decide) rfl 0 (by decide) wd2 (fun _ h9 => h9) (by decide) rfl (t := 24) (hR 23 0 rfl) (by decide) dX7_takeTurn_43 ?_
    refine lv_iload_n hx hb dX7_takeTurn_46 rfl (lv_at hl 0 rfl) ?_
    refine h_qald hx hb hK hH (by decide) (rfl : kd 24 = 28) (by decide) rfl (s_vin (N := 3) (rfl : (i 23 2).toInt = _) (rfl : ln 24 = 3) (by omega) (by omega)) (t := 26) (by rw [show ((i 23 2)).toNatClampNeg = 1 by rw [s_cl (rfl : (i 23 2).toInt = _)]; omega]; exact (hR 24 1 rfl)) (by decide) dX7_takeTurn_47 ?_
    have bx_101 : (-1 : Int) ≤ (i 26 1).toInt ∧ (i 26 1).toInt ≤ 23 := hO 26 1
    refine h_geti (ci := 10) (C := RX10) (F := TX10) (N := 8) hx hb hts in10 hown hK hH (by decide) (rfl : kd 26 = 10) (by decide) rfl 1 (by decide) wd3 (fun _ h9 => h9) (by decide) rfl dX7_takeTurn_48 ?_
    refine sj_i (y := (i 26 1)) (congrFun (up2_n _ _ (by decide)) _) ?_
    refine lv_if_ge (tgt := 65) hx hb dX7_takeTurn_51 (by decide) (fun c_102 => ?_) (fun c_102 => ?_)
    · skip
      have h_103 := s_le (show (0 : Int32).toInt = 0 from rfl) (rfl : (i 26 1).toInt = _) c_102
      refine lv_iload_n hx hb dX7_takeTurn_65 rfl (lv_at hl 0 rfl) ?_
      have hz0 : (0 : Int32).toInt = 0 := rfl
      have hz1 : (1 : Int32).toInt = 1 := rfl
      have hz2 : (2 : Int32).toInt = 2 := rfl
      have hw_104 : ((up2 i 23 2 0) 23 1).toInt = ((i 23 1) : Int32).toInt := congrArg Int32.toInt ((up2_k _ _ (by decide)))
      have hw_105 : ((up2 i 23 2 0) 23 2).toInt = (0 : Int32).toInt := congrArg Int32.toInt ((up2_at _ _ _ _))
      have hw_106 : ((up2 i 23 2 0) 23 4).toInt = ((i 23 4) : Int32).toInt := congrArg Int32.toInt ((up2_k _ _ (by decide)))
      have hw_107 : ((up2 i 23 2 0) 23 5).toInt = ((i 23 5) : Int32).toInt := congrArg Int32.toInt ((up2_k _ _ (by decide)))
      have hw_108 : ((up2 i 23 2 0) 23 6).toInt = ((i 23 6) : Int32).toInt := congrArg Int32.toInt ((up2_k _ _ (by decide)))
      have hw_109 : ((up2 i 23 2 0) 23 7).toInt = ((i 23 7) : Int32).toInt := congrArg Int32.toInt ((up2_k _ _ (by decide)))
      have hw_110 : ((up2 i 23 2 0) 23 8).toInt = ((i 23 8) : Int32).toInt := congrArg Int32.toInt ((up2_k _ _ (by decide)))
      have hw_111 : ((up2 i 23 2 0) 23 10).toInt = ((i 23 10) : Int32).toInt := congrArg Int32.toInt ((up2_k _ _ (by decide)))
      exact sj_zret hx hb hr hlocks rfl hS (up2 i 23 2 0) ⟨hO_100, (fun a ha => (up2_n _ _ (by omega))), ⟨by omega, by omega⟩, (by refine ⟨?_, ?_, ?_, ?_, ?_, ?_, ?_, ?_, ?_, ?_⟩ <;> omega)⟩ hH (sj_Knil hK) (Nat.le_of_ble_eq_true rfl) (Nat.le_of_ble_eq_true rfl) dX7_takeTurn_66
    · skip
      have h_112 := s_nle (show (0 : Int32).toInt = 0 from rfl) (rfl : (i 26 1).toInt = _) c_102
      refine lv_aload_n hx hb dX7_takeTurn_54 rfl (lv_at hl 2 rfl) ?_
      have bx_113 : (0 : Int) ≤ (i 23 5).toInt ∧ (i 23 5).toInt ≤ 24 := hO 23 5
      refine h_geti (ci := 7) (C := RX7) (F := TX7) (N := 11) hx hb hts in7 hown hK hH (by decide) (rfl : kd 23 = 7) (by decide) rfl 5 (by decide) wd4 (fun _ h9 => h9) (by decide) rfl dX7_takeTurn_55 ?_
      refine sj_i (y := (i 23 5)) (up2_k _ _ (by decide)) ?_
      refine lv_aload_n hx hb dX7_takeTurn_58 rfl (lv_at hl 2 rfl) ?_
      have bx_114 : (0 : Int) ≤ (i 23 4).toInt ∧ (i 23 4).toInt ≤ 24 := hO 23 4
      refine h_geti (ci := 7) (C := RX7) (F := TX7) (N := 11) hx hb hts in7 hown hK hH (by decide) (rfl : kd 23 = 7) (by decide) rfl 4 (by decide) wd5 (fun _ h9 => h9) (by decide) rfl dX7_takeTurn_59 ?_
      refine sj_i (y := (i 23 4)) (up2_k _ _ (by decide)) ?_
      refine lv_icmp_ge (tgt := 67) hx hb dX7_takeTurn_62 (by decide) (fun c_115 => ?_) (fun c_115 => ?_)
      · skip
        have h_116 := s_le (rfl : (i 23 4).toInt = _) (rfl : (i 23 5).toInt = _) c_115
        refine lv_iinc (v := 1) (lv' := [(1, .int 1), (2, .int (i 23 2)), (0, .ref (g 23))]) hx hb dX7_takeTurn_67 hl (k := 1) rfl (by decide) (by decide) rfl (fun ls hl => ?_)
        refine lv_goto (tgt := 2) hx hb dX7_takeTurn_70 (by decide) ?_
        refine lv_iload_n hx hb dX7_takeTurn_2 rfl (lv_at hl 0 rfl) ?_
        refine lv_aload_n hx hb dX7_takeTurn_3 rfl (lv_at hl 2 rfl) ?_
        refine h_geti (ci := 7) (C := RX7) (F := TX7) (N := 11) hx hb hts in7 hown hK hH (by decide) (rfl : kd 23 = 7) (by decide) rfl 1 (by decide) wd0 (fun _ h9 => h9) (by decide) rfl dX7_takeTurn_4 ?_
        refine sj_i (y := (i 23 1)) (up2_k _ _ (by decide)) ?_
        refine lv_icmp_ge (tgt := 73) hx hb dX7_takeTurn_7 (by decide) (fun h => absurd h (p_nle (rfl : (i 23 1).toInt = _) (show (1 : Int32).toInt = 1 from rfl) (by omega))) (fun _ => ?_)
        refine lv_aload_n hx hb dX7_takeTurn_10 rfl (lv_at hl 2 rfl) ?_
        refine h_geti (ci := 7) (C := RX7) (F := TX7) (N := 11) hx hb hts in7 hown hK hH (by decide) (rfl : kd 23 = 7) (by decide) rfl 2 (by decide) wd1 (fun _ h9 => h9) (by decide) rfl dX7_takeTurn_11 ?_
        refine sj_i (y := 0) (up2_at _ _ _ _) ?_
        refine lv_istore_n (lv' := [(2, .int 0), (1, .int 1), (0, .ref (g 23))]) hx hb dX7_takeTurn_14 rfl hl (by decide) rfl (fun ls hl => ?_)
        refine lv_aload_n hx hb dX7_takeTurn_15 rfl (lv_at hl 2 rfl) ?_
        refine lv_aload_n hx hb dX7_takeTurn_16 rfl (lv_at hl 2 rfl) ?_
        refine h_geti (ci := 7) (C := RX7) (F := TX7) (N := 11) hx hb hts in7 hown hK hH (by decide) (rfl : kd 23 = 7) (by decide) rfl 2 (by decide) wd1 (fun _ h9 => h9) (by decide) rfl dX7_takeTurn_17 ?_
        refine sj_i (y := 0) (up2_at _ _ _ _) ?_
        refine lv_iconst (v := 1) hx hb dX7_takeTurn_20 (by decide) ?_
        refine lv_iadd hx hb dX7_takeTurn_21 ?_
        refine sj_i (y := 1) (by decide) ?_
        refine lv_aload_n hx hb dX7_takeTurn_22 rfl (lv_at hl 2 rfl) ?_
        refine h_geti (ci := 7) (C := RX7) (F := TX7) (N := 11) hx hb hts in7 hown hK hH (by decide) (rfl : kd 23 = 7) (by decide) rfl 1 (by decide) wd0 (fun _ h9 => h9) (by decide) rfl dX7_takeTurn_23 ?_
        refine sj_i (y := (i 23 1)) (up2_k _ _ (by decide)) ?_
        refine lv_icmp_ge (tgt := 38) hx hb dX7_takeTurn_26 (by decide) (fun h => absurd h (p_nle (rfl : (i 23 1).toInt = _) (show (1 : Int32).toInt = 1 from rfl) (by omega))) (fun _ => ?_)
        refine lv_aload_n hx hb dX7_takeTurn_29 rfl (lv_at hl 2 rfl) ?_
        refine h_geti (ci := 7) (C := RX7) (F := TX7) (N := 11) hx hb hts in7 hown hK hH (by decide) (rfl : kd 23 = 7) (by decide) rfl 2 (by decide) wd1 (fun _ h9 => h9) (by decide) rfl dX7_takeTurn_30 ?_
        refine sj_i (y := 0) (up2_at _ _ _ _) ?_
        refine lv_iconst (v := 1) hx hb dX7_takeTurn_33 (by decide) ?_
        refine lv_iadd hx hb dX7_takeTurn_34 ?_
        refine sj_i (y := 1) (by decide) ?_
        refine lv_goto (tgt := 39) hx hb dX7_takeTurn_35 (by decide) ?_
        have hO_117 := okp hO_100 (n := 23) (k := 2) (v := 1) (show (0 : Int) ≤ (1 : Int32).toInt ∧ (1 : Int32).toInt ≤ 2 from ⟨by decide, by decide⟩)
        refine h_puti (ty := .int) (ci := 7) (C := RX7) (F := TX7) (N := 11) hx hb hts in7 tyX7 tyX7_ok nmX7 hown hK hH hS (by decide) (rfl : kd 23 = 7) (by decide) rfl 2 (by decide) wd1 (fun _ h9 => h9) rfl (by decide +kernel) rfl rfl (by decide) rfl dX7_takeTurn_39 (fun H locs hH hS => ?_)
        refine lv_aload_n hx hb dX7_takeTurn_42 rfl (lv_at hl 2 rfl) ?_
        refine h_getr (ci := 7) (C := RX7) (F := TX7) (N := 11) hx hb hts in7 hown hK hH (by decide) (rfl : kd 23 = 7) (by decide) rfl 0 (by decide) wd2 (fun _ h9 => h9) (by decide) rfl (t := 24) (hR 23 0 rfl) (by decide) dX7_takeTurn_43 ?_
        refine lv_iload_n hx hb dX7_takeTurn_46 rfl (lv_at hl 0 rfl) ?_
        refine h_qald hx hb hK hH (by decide) (rfl : kd 24 = 28) (by decide) rfl (s_vin (N := 3) (show (0 : Int32).toInt = 0 from rfl) (rfl : ln 24 = 3) (by omega) (by omega)) (t := 25) (hR 24 0 rfl) (by decide) dX7_takeTurn_47 ?_
        have bx_118 : (-1 : Int) ≤ (i 25 1).toInt ∧ (i 25 1).toInt ≤ 23 := hO 25 1
        refine h_geti (ci := 10) (C := RX10) (F := TX10) (N := 8) hx hb hts in10 hown hK hH (by decide) (rfl : kd 25 = 10) (by decide) rfl 1 (by decide) wd3 (fun _ h9 => h9) (by decide) rfl dX7_takeTurn_48 ?_
        refine sj_i (y := (i 25 1)) ((congrFun (up2_n _ _ (by decide)) _).trans (congrFun (up2_n _ _ (by decide)) _)) ?_
        refine lv_if_ge (tgt := 65) hx hb dX7_takeTurn_51 (by decide) (fun c_119 => ?_) (fun c_119 => ?_)
        · skip
          have h_120 := s_le (show (0 : Int32).toInt = 0 from rfl) (rfl : (i 25 1).toInt = _) c_119
          refine lv_iload_n hx hb dX7_takeTurn_65 rfl (lv_at hl 0 rfl) ?_
          have hlv_121 : (0 : Int32).toInt = 0 := rfl
          have hz0 : (0 : Int32).toInt = 0 := rfl
          have hz1 : (1 : Int32).toInt = 1 := rfl
          have hz2 : (2 : Int32).toInt = 2 := rfl
          have hw_122 : ((up2 (up2 i 23 2 0) 23 2 1) 23 1).toInt = ((i 23 1) : Int32).toInt := congrArg Int32.toInt (((up2_k _ _ (by decide)).trans (up2_k _ _ (by decide))))
          have hw_123 : ((up2 (up2 i 23 2 0) 23 2 1) 23 2).toInt = (1 : Int32).toInt := congrArg Int32.toInt ((up2_at _ _ _ _))
          have hw_124 : ((up2 (up2 i 23 2 0) 23 2 1) 23 4).toInt = ((i 23 4) : Int32).toInt := congrArg Int32.toInt (((up2_k _ _ (by decide)).trans (up2_k _ _ (by decide))))
          have hw_125 : ((up2 (up2 i 23 2 0) 23 2 1) 23 5).toInt = ((i 23 5) : Int32).toInt := congrArg Int32.toInt (((up2_k _ _ (by decide)).trans (up2_k _ _ (by decide))))
          have hw_126 : ((up2 (up2 i 23 2 0) 23 2 1) 23 6).toInt = ((i 23 6) : Int32).toInt := congrArg Int32.toInt (((up2_k _ _ (by decide)).trans (up2_k _ _ (by decide))))
          have hw_127 : ((up2 (up2 i 23 2 0) 23 2 1) 23 7).toInt = ((i 23 7) : Int32).toInt := congrArg Int32.toInt (((up2_k _ _ (by decide)).trans (up2_k _ _ (by decide))))
          have hw_128 : ((up2 (up2 i 23 2 0) 23 2 1) 23 8).toInt = ((i 23 8) : Int32).toInt := congrArg Int32.toInt (((up2_k _ _ (by decide)).trans (up2_k _ _ (by decide))))
          have hw_129 : ((up2 (up2 i 23 2 0) 23 2 1) 23 10).toInt = ((i 23 10) : Int32).toInt := congrArg Int32.toInt (((up2_k _ _ (by decide)).trans (up2_k _ _ (by decide))))
          exact sj_zret hx hb hr hlocks rfl hS (up2 (up2 i 23 2 0) 23 2 1) ⟨hO_117, (fun a ha => ((up2_n _ _ (by omega)).trans (up2_n _ _ (by omega)))), ⟨by decide, by decide⟩, (by refine ⟨?_, ?_, ?_, ?_, ?_, ?_, ?_, ?_, ?_, ?_⟩ <;> omega)⟩ hH (sj_Knil hK) (Nat.le_of_ble_eq_true rfl) (Nat.le_of_ble_eq_true rfl) dX7_takeTurn_66
        · skip
          have h_130 := s_nle (show (0 : Int32).toInt = 0 from rfl) (rfl : (i 25 1).toInt = _) c_119
          refine lv_aload_n hx hb dX7_takeTurn_54 rfl (lv_at hl 2 rfl) ?_
          refine h_geti (ci := 7) (C := RX7) (F := TX7) (N := 11) hx hb hts in7 hown hK hH (by decide) (rfl : kd 23 = 7) (by decide) rfl 5 (by decide) wd4 (fun _ h9 => h9) (by decide) rfl dX7_takeTurn_55 ?_
          refine sj_i (y := (i 23 5)) ((up2_k _ _ (by decide)).trans (up2_k _ _ (by decide))) ?_
          refine lv_aload_n hx hb dX7_takeTurn_58 rfl (lv_at hl 2 rfl) ?_
          refine h_geti (ci := 7) (C := RX7) (F := TX7) (N := 11) hx hb hts in7 hown hK hH (by decide) (rfl : kd 23 = 7) (by decide) rfl 4 (by decide) wd5 (fun _ h9 => h9) (by decide) rfl dX7_takeTurn_59 ?_
          refine sj_i (y := (i 23 4)) ((up2_k _ _ (by decide)).trans (up2_k _ _ (by decide))) ?_
          refine lv_icmp_ge (tgt := 67) hx hb dX7_takeTurn_62 (by decide) (fun c_131 => ?_) (fun c_131 => ?_)
          · skip
            have h_132 := s_le (rfl : (i 23 4).toInt = _) (rfl : (i 23 5).toInt = _) c_131
            refine lv_iinc (v := 2) (lv' := [(1, .int 2), (2, .int 0), (0, .ref (g 23))]) hx hb dX7_takeTurn_67 hl (k := 1) rfl (by decide) (by decide) rfl (fun ls hl => ?_)
            refine lv_goto (tgt := 2) hx hb dX7_takeTurn_70 (by decide) ?_
            refine lv_iload_n hx hb dX7_takeTurn_2 rfl (lv_at hl 0 rfl) ?_
            refine lv_aload_n hx hb dX7_takeTurn_3 rfl (lv_at hl 2 rfl) ?_
            refine h_geti (ci := 7) (C := RX7) (F := TX7) (N := 11) hx hb hts in7 hown hK hH (by decide) (rfl : kd 23 = 7) (by decide) rfl 1 (by decide) wd0 (fun _ h9 => h9) (by decide) rfl dX7_takeTurn_4 ?_
            refine sj_i (y := (i 23 1)) ((up2_k _ _ (by decide)).trans (up2_k _ _ (by decide))) ?_
            refine lv_icmp_ge (tgt := 73) hx hb dX7_takeTurn_7 (by decide) (fun _ => ?_) (fun h => absurd (p_le (rfl : (i 23 1).toInt = _) (show (2 : Int32).toInt = 2 from rfl) (by omega)) h)
            refine lv_aload_n hx hb dX7_takeTurn_73 rfl (lv_at hl 2 rfl) ?_
            refine h_geti (ci := 7) (C := RX7) (F := TX7) (N := 11) hx hb hts in7 hown hK hH (by decide) (rfl : kd 23 = 7) (by decide) rfl 2 (by decide) wd1 (fun _ h9 => h9) (by decide) rfl dX7_takeTurn_74 ?_
            refine sj_i (y := 1) (up2_at _ _ _ _) ?_
            have hlv_133 : (1 : Int32).toInt = 1 := rfl
            have hz0 : (0 : Int32).toInt = 0 := rfl
            have hz1 : (1 : Int32).toInt = 1 := rfl
            have hz2 : (2 : Int32).toInt = 2 := rfl
            have hw_134 : ((up2 (up2 i 23 2 0) 23 2 1) 23 1).toInt = ((i 23 1) : Int32).toInt := congrArg Int32.toInt (((up2_k _ _ (by decide)).trans (up2_k _ _ (by decide))))
            have hw_135 : ((up2 (up2 i 23 2 0) 23 2 1) 23 2).toInt = (1 : Int32).toInt := congrArg Int32.toInt ((up2_at _ _ _ _))
            have hw_136 : ((up2 (up2 i 23 2 0) 23 2 1) 23 4).toInt = ((i 23 4) : Int32).toInt := congrArg Int32.toInt (((up2_k _ _ (by decide)).trans (up2_k _ _ (by decide))))
            have hw_137 : ((up2 (up2 i 23 2 0) 23 2 1) 23 5).toInt = ((i 23 5) : Int32).toInt := congrArg Int32.toInt (((up2_k _ _ (by decide)).trans (up2_k _ _ (by decide))))
            have hw_138 : ((up2 (up2 i 23 2 0) 23 2 1) 23 6).toInt = ((i 23 6) : Int32).toInt := congrArg Int32.toInt (((up2_k _ _ (by decide)).trans (up2_k _ _ (by decide))))
            have hw_139 : ((up2 (up2 i 23 2 0) 23 2 1) 23 7).toInt = ((i 23 7) : Int32).toInt := congrArg Int32.toInt (((up2_k _ _ (by decide)).trans (up2_k _ _ (by decide))))
            have hw_140 : ((up2 (up2 i 23 2 0) 23 2 1) 23 8).toInt = ((i 23 8) : Int32).toInt := congrArg Int32.toInt (((up2_k _ _ (by decide)).trans (up2_k _ _ (by decide))))
            have hw_141 : ((up2 (up2 i 23 2 0) 23 2 1) 23 10).toInt = ((i 23 10) : Int32).toInt := congrArg Int32.toInt (((up2_k _ _ (by decide)).trans (up2_k _ _ (by decide))))
            exact sj_zret hx hb hr hlocks rfl hS (up2 (up2 i 23 2 0) 23 2 1) ⟨hO_117, (fun a ha => ((up2_n _ _ (by omega)).trans (up2_n _ _ (by omega)))), ⟨by decide, by decide⟩, (by refine ⟨?_, ?_, ?_, ?_, ?_, ?_, ?_, ?_, ?_, ?_⟩ <;> omega)⟩ hH (sj_Knil hK) (Nat.le_of_ble_eq_true rfl) (Nat.le_of_ble_eq_true rfl) dX7_takeTurn_77
          · skip
            have h_142 := s_nle (rfl : (i 23 4).toInt = _) (rfl : (i 23 5).toInt = _) c_131
            refine lv_iload_n hx hb dX7_takeTurn_65 rfl (lv_at hl 0 rfl) ?_
            have hlv_143 : (0 : Int32).toInt = 0 := rfl
            have hz0 : (0 : Int32).toInt = 0 := rfl
            have hz1 : (1 : Int32).toInt = 1 := rfl
            have hz2 : (2 : Int32).toInt = 2 := rfl
            have hw_144 : ((up2 (up2 i 23 2 0) 23 2 1) 23 1).toInt = ((i 23 1) : Int32).toInt := congrArg Int32.toInt (((up2_k _ _ (by decide)).trans (up2_k _ _ (by decide))))
            have hw_145 : ((up2 (up2 i 23 2 0) 23 2 1) 23 2).toInt = (1 : Int32).toInt := congrArg Int32.toInt ((up2_at _ _ _ _))
            have hw_146 : ((up2 (up2 i 23 2 0) 23 2 1) 23 4).toInt = ((i 23 4) : Int32).toInt := congrArg Int32.toInt (((up2_k _ _ (by decide)).trans (up2_k _ _ (by decide))))
            have hw_147 : ((up2 (up2 i 23 2 0) 23 2 1) 23 5).toInt = ((i 23 5) : Int32).toInt := congrArg Int32.toInt (((up2_k _ _ (by decide)).trans (up2_k _ _ (by decide))))
            have hw_148 : ((up2 (up2 i 23 2 0) 23 2 1) 23 6).toInt = ((i 23 6) : Int32).toInt := congrArg Int32.toInt (((up2_k _ _ (by decide)).trans (up2_k _ _ (by decide))))
            have hw_149 : ((up2 (up2 i 23 2 0) 23 2 1) 23 7).toInt = ((i 23 7) : Int32).toInt := congrArg Int32.toInt (((up2_k _ _ (by decide)).trans (up2_k _ _ (by decide))))
            have hw_150 : ((up2 (up2 i 23 2 0) 23 2 1) 23 8).toInt = ((i 23 8) : Int32).toInt := congrArg Int32.toInt (((up2_k _ _ (by decide)).trans (up2_k _ _ (by decide))))
            have hw_151 : ((up2 (up2 i 23 2 0) 23 2 1) 23 10).toInt = ((i 23 10) : Int32).toInt := congrArg Int32.toInt (((up2_k _ _ (by decide)).trans (up2_k _ _ (by decide))))
            exact sj_zret hx hb hr hlocks rfl hS (up2 (up2 i 23 2 0) 23 2 1) ⟨hO_117, (fun a ha => ((up2_n _ _ (by omega)).trans (up2_n _ _ (by omega)))), ⟨by decide, by decide⟩, (by refine ⟨?_, ?_, ?_, ?_, ?_, ?_, ?_, ?_, ?_, ?_⟩ <;> omega)⟩ hH (sj_Knil hK) (Nat.le_of_ble_eq_true rfl) (Nat.le_of_ble_eq_true rfl) dX7_takeTurn_66
      · skip
        have h_152 := s_nle (rfl : (i 23 4).toInt = _) (rfl : (i 23 5).toInt = _) c_115
        refine lv_iload_n hx hb dX7_takeTurn_65 rfl (lv_at hl 0 rfl) ?_
        have hz0 : (0 : Int32).toInt = 0 := rfl
        have hz1 : (1 : Int32).toInt = 1 := rfl
        have hz2 : (2 : Int32).toInt = 2 := rfl
        have hw_153 : ((up2 i 23 2 0) 23 1).toInt = ((i 23 1) : Int32).toInt := congrArg Int32.toInt ((up2_k _ _ (by decide)))
        have hw_154 : ((up2 i 23 2 0) 23 2).toInt = (0 : Int32).toInt := congrArg Int32.toInt ((up2_at _ _ _ _))
        have hw_155 : ((up2 i 23 2 0) 23 4).toInt = ((i 23 4) : Int32).toInt := congrArg Int32.toInt ((up2_k _ _ (by decide)))
        have hw_156 : ((up2 i 23 2 0) 23 5).toInt = ((i 23 5) : Int32).toInt := congrArg Int32.toInt ((up2_k _ _ (by decide)))
        have hw_157 : ((up2 i 23 2 0) 23 6).toInt = ((i 23 6) : Int32).toInt := congrArg Int32.toInt ((up2_k _ _ (by decide)))
        have hw_158 : ((up2 i 23 2 0) 23 7).toInt = ((i 23 7) : Int32).toInt := congrArg Int32.toInt ((up2_k _ _ (by decide)))
        have hw_159 : ((up2 i 23 2 0) 23 8).toInt = ((i 23 8) : Int32).toInt := congrArg Int32.toInt ((up2_k _ _ (by decide)))
        have hw_160 : ((up2 i 23 2 0) 23 10).toInt = ((i 23 10) : Int32).toInt := congrArg Int32.toInt ((up2_k _ _ (by decide)))
        exact sj_zret hx hb hr hlocks rfl hS (up2 i 23 2 0) ⟨hO_100, (fun a ha => (up2_n _ _ (by omega))), ⟨by omega, by omega⟩, (by refine ⟨?_, ?_, ?_, ?_, ?_, ?_, ?_, ?_, ?_, ?_⟩ <;> omega)⟩ hH (sj_Knil hK) (Nat.le_of_ble_eq_true rfl) (Nat.le_of_ble_eq_true rfl) dX7_takeTurn_66
  · skip
    refine lv_iconst (v := 0) hx hb dX7_takeTurn_0 (by decide) ?_
    refine lv_istore_n (lv' := [(1, .int 0), (0, .ref (g 23))]) hx hb dX7_takeTurn_1 rfl hl (by decide) rfl (fun ls hl => ?_)
    refine lv_iload_n hx hb dX7_takeTurn_2 rfl (lv_at hl 0 rfl) ?_
    refine lv_aload_n hx hb dX7_takeTurn_3 rfl (lv_at hl 1 rfl) ?_
    refine h_geti (ci := 7) (C := RX7) (F := TX7) (N := 11) hx hb hts in7 hown hK hH (by decide) (rfl : kd 23 = 7) (by decide) rfl 1 (by decide) wd0 (fun _ h9 => h9) (by decide) rfl dX7_takeTurn_4 ?_
    refine lv_icmp_ge (tgt := 73) hx hb dX7_takeTurn_7 (by decide) (fun h => absurd h (p_nle (rfl : (i 23 1).toInt = _) (show (0 : Int32).toInt = 0 from rfl) (by omega))) (fun _ => ?_)
    refine lv_aload_n hx hb dX7_takeTurn_10 rfl (lv_at hl 1 rfl) ?_
    refine h_geti (ci := 7) (C := RX7) (F := TX7) (N := 11) hx hb hts in7 hown hK hH (by decide) (rfl : kd 23 = 7) (by decide) rfl 2 (by decide) wd1 (fun _ h9 => h9) (by decide) rfl dX7_takeTurn_11 ?_
    refine lv_istore_n (lv' := [(2, .int (i 23 2)), (1, .int 0), (0, .ref (g 23))]) hx hb dX7_takeTurn_14 rfl hl (by decide) rfl (fun ls hl => ?_)
    refine lv_aload_n hx hb dX7_takeTurn_15 rfl (lv_at hl 2 rfl) ?_
    refine lv_aload_n hx hb dX7_takeTurn_16 rfl (lv_at hl 2 rfl) ?_
    refine h_geti (ci := 7) (C := RX7) (F := TX7) (N := 11) hx hb hts in7 hown hK hH (by decide) (rfl : kd 23 = 7) (by decide) rfl 2 (by decide) wd1 (fun _ h9 => h9) (by decide) rfl dX7_takeTurn_17 ?_
    refine lv_iconst (v := 1) hx hb dX7_takeTurn_20 (by decide) ?_
    refine lv_iadd hx hb dX7_takeTurn_21 ?_
    obtain ⟨z_161, ez_161, hz_161⟩ := s_add (rfl : (i 23 2).toInt = _) (show (1 : Int32).toInt = 1 from rfl) (by omega) (by omega)
    refine sj_i ez_161 ?_
    refine lv_aload_n hx hb dX7_takeTurn_22 rfl (lv_at hl 2 rfl) ?_
    refine h_geti (ci := 7) (C := RX7) (F := TX7) (N := 11) hx hb hts in7 hown hK hH (by decide) (rfl : kd 23 = 7) (by decide) rfl 1 (by decide) wd0 (fun _ h9 => h9) (by decide) rfl dX7_takeTurn_23 ?_
    refine lv_icmp_ge (tgt := 38) hx hb dX7_takeTurn_26 (by decide) (fun h => absurd h (p_nle (rfl : (i 23 1).toInt = _) (rfl : z_161.toInt = _) (by omega))) (fun _ => ?_)
    refine lv_aload_n hx hb dX7_takeTurn_29 rfl (lv_at hl 2 rfl) ?_
    refine h_geti (ci := 7) (C := RX7) (F := TX7) (N := 11) hx hb hts in7 hown hK hH (by decide) (rfl : kd 23 = 7) (by decide) rfl 2 (by decide) wd1 (fun _ h9 => h9) (by decide) rfl dX7_takeTurn_30 ?_
    refine lv_iconst (v := 1) hx hb dX7_takeTurn_33 (by decide) ?_
    refine lv_iadd hx hb dX7_takeTurn_34 ?_
    obtain ⟨z_162, ez_162, hz_162⟩ := s_add (rfl : (i 23 2).toInt = _) (show (1 : Int32).toInt = 1 from rfl) (by omega) (by omega)
    refine sj_i ez_162 ?_
    refine lv_goto (tgt := 39) hx hb dX7_takeTurn_35 (by decide) ?_
    have hO_163 := okp hO (n := 23) (k := 2) (v := z_162) (show (0 : Int) ≤ (z_162 : Int32).toInt ∧ (z_162 : Int32).toInt ≤ 2 from ⟨by omega, by omega⟩)
    refine h_puti (ty := .int) (ci := 7) (C := RX7) (F := TX7) (N := 11) hx hb hts in7 tyX7 tyX7_ok nmX7 hown hK hH hS (by decide) (rfl : kd 23 = 7) (by decide) rfl 2 (by decide) wd1 (fun _ h9 => h9) rfl (by decide +kernel) rfl rfl (by decide) rfl dX7_takeTurn_39 (fun H locs hH hS => ?_)
    refine lv_aload_n hx hb dX7_takeTurn_42 rfl (lv_at hl 2 rfl) ?_
    refine h_getr (ci := 7) (C := RX7) (F := TX7) (N := 11) hx hb hts in7 hown hK hH (by decide) (rfl : kd 23 = 7) (by decide) rfl 0 (by decide) wd2 (fun _ h9 => h9) (by decide) rfl (t := 24) (hR 23 0 rfl) (by decide) dX7_takeTurn_43 ?_
    refine lv_iload_n hx hb dX7_takeTurn_46 rfl (lv_at hl 0 rfl) ?_
    refine h_qald hx hb hK hH (by decide) (rfl : kd 24 = 28) (by decide) rfl (s_vin (N := 3) (rfl : (i 23 2).toInt = _) (rfl : ln 24 = 3) (by omega) (by omega)) (t := 25) (by rw [show ((i 23 2)).toNatClampNeg = 0 by rw [s_cl (rfl : (i 23 2).toInt = _)]; omega]; exact (hR 24 0 rfl)) (by decide) dX7_takeTurn_47 ?_
    have bx_164 : (-1 : Int) ≤ (i 25 1).toInt ∧ (i 25 1).toInt ≤ 23 := hO 25 1
    refine h_geti (ci := 10) (C := RX10) (F := TX10) (N := 8) hx hb hts in10 hown hK hH (by decide) (rfl : kd 25 = 10) (by decide) rfl 1 (by decide) wd3 (fun _ h9 => h9) (by decide) rfl dX7_takeTurn_48 ?_
    refine sj_i (y := (i 25 1)) (congrFun (up2_n _ _ (by decide)) _) ?_
    refine lv_if_ge (tgt := 65) hx hb dX7_takeTurn_51 (by decide) (fun c_165 => ?_) (fun c_165 => ?_)
    · skip
      have h_166 := s_le (show (0 : Int32).toInt = 0 from rfl) (rfl : (i 25 1).toInt = _) c_165
      refine lv_iload_n hx hb dX7_takeTurn_65 rfl (lv_at hl 0 rfl) ?_
      have hz0 : (0 : Int32).toInt = 0 := rfl
      have hz1 : (1 : Int32).toInt = 1 := rfl
      have hz2 : (2 : Int32).toInt = 2 := rfl
      have hw_167 : ((up2 i 23 2 z_162) 23 1).toInt = ((i 23 1) : Int32).toInt := congrArg Int32.toInt ((up2_k _ _ (by decide)))
      have hw_168 : ((up2 i 23 2 z_162) 23 2).toInt = (z_162 : Int32).toInt := congrArg Int32.toInt ((up2_at _ _ _ _))
      have hw_169 : ((up2 i 23 2 z_162) 23 4).toInt = ((i 23 4) : Int32).toInt := congrArg Int32.toInt ((up2_k _ _ (by decide)))
      have hw_170 : ((up2 i 23 2 z_162) 23 5).toInt = ((i 23 5) : Int32).toInt := congrArg Int32.toInt ((up2_k _ _ (by decide)))
      have hw_171 : ((up2 i 23 2 z_162) 23 6).toInt = ((i 23 6) : Int32).toInt := congrArg Int32.toInt ((up2_k _ _ (by decide)))
      have hw_172 : ((up2 i 23 2 z_162) 23 7).toInt = ((i 23 7) : Int32).toInt := congrArg Int32.toInt ((up2_k _ _ (by decide)))
      have hw_173 : ((up2 i 23 2 z_162) 23 8).toInt = ((i 23 8) : Int32).toInt := congrArg Int32.toInt ((up2_k _ _ (by decide)))
      have hw_174 : ((up2 i 23 2 z_162) 23 10).toInt = ((i 23 10) : Int32).toInt := congrArg Int32.toInt ((up2_k _ _ (by decide)))
      exact sj_zret hx hb hr hlocks rfl hS (up2 i 23 2 z_162) ⟨hO_163, (fun a ha => (up2_n _ _ (by omega))), ⟨by omega, by omega⟩, (by refine ⟨?_, ?_, ?_, ?_, ?_, ?_, ?_, ?_, ?_, ?_⟩ <;> omega)⟩ hH (sj_Knil hK) (Nat.le_of_ble_eq_true rfl) (Nat.le_of_ble_eq_true rfl) dX7_takeTurn_66
    · skip
      have h_175 := s_nle (show (0 : Int32).toInt = 0 from rfl) (rfl : (i 25 1).toInt = _) c_165
      refine lv_aload_n hx hb dX7_takeTurn_54 rfl (lv_at hl 2 rfl) ?_
      have bx_176 : (0 : Int) ≤ (i 23 5).toInt ∧ (i 23 5).toInt ≤ 24 := hO 23 5
      refine h_geti (ci := 7) (C := RX7) (F := TX7) (N := 11) hx hb hts in7 hown hK hH (by decide) (rfl : kd 23 = 7) (by decide) rfl 5 (by decide) wd4 (fun _ h9 => h9) (by decide) rfl dX7_takeTurn_55 ?_
      refine sj_i (y := (i 23 5)) (up2_k _ _ (by decide)) ?_
      refine lv_aload_n hx hb dX7_takeTurn_58 rfl (lv_at hl 2 rfl) ?_
      have bx_177 : (0 : Int) ≤ (i 23 4).toInt ∧ (i 23 4).toInt ≤ 24 := hO 23 4
      refine h_geti (ci := 7) (C := RX7) (F := TX7) (N := 11) hx hb hts in7 hown hK hH (by decide) (rfl : kd 23 = 7) (by decide) rfl 4 (by decide) wd5 (fun _ h9 => h9) (by decide) rfl dX7_takeTurn_59 ?_
      refine sj_i (y := (i 23 4)) (up2_k _ _ (by decide)) ?_
      refine lv_icmp_ge (tgt := 67) hx hb dX7_takeTurn_62 (by decide) (fun c_178 => ?_) (fun c_178 => ?_)
      · skip
        have h_179 := s_le (rfl : (i 23 4).toInt = _) (rfl : (i 23 5).toInt = _) c_178
        refine lv_iinc (v := 1) (lv' := [(1, .int 1), (2, .int (i 23 2)), (0, .ref (g 23))]) hx hb dX7_takeTurn_67 hl (k := 1) rfl (by decide) (by decide) rfl (fun ls hl => ?_)
        refine lv_goto (tgt := 2) hx hb dX7_takeTurn_70 (by decide) ?_
        refine lv_iload_n hx hb dX7_takeTurn_2 rfl (lv_at hl 0 rfl) ?_
        refine lv_aload_n hx hb dX7_takeTurn_3 rfl (lv_at hl 2 rfl) ?_
        refine h_geti (ci := 7) (C := RX7) (F := TX7) (N := 11) hx hb hts in7 hown hK hH (by decide) (rfl : kd 23 = 7) (by decide) rfl 1 (by decide) wd0 (fun _ h9 => h9) (by decide) rfl dX7_takeTurn_4 ?_
        refine sj_i (y := (i 23 1)) (up2_k _ _ (by decide)) ?_
        refine lv_icmp_ge (tgt := 73) hx hb dX7_takeTurn_7 (by decide) (fun h => absurd h (p_nle (rfl : (i 23 1).toInt = _) (show (1 : Int32).toInt = 1 from rfl) (by omega))) (fun _ => ?_)
        refine lv_aload_n hx hb dX7_takeTurn_10 rfl (lv_at hl 2 rfl) ?_
        refine h_geti (ci := 7) (C := RX7) (F := TX7) (N := 11) hx hb hts in7 hown hK hH (by decide) (rfl : kd 23 = 7) (by decide) rfl 2 (by decide) wd1 (fun _ h9 => h9) (by decide) rfl dX7_takeTurn_11 ?_
        refine sj_i (y := z_162) (up2_at _ _ _ _) ?_
        refine lv_istore_n (lv' := [(2, .int z_162), (1, .int 1), (0, .ref (g 23))]) hx hb dX7_takeTurn_14 rfl hl (by decide) rfl (fun ls hl => ?_)
        refine lv_aload_n hx hb dX7_takeTurn_15 rfl (lv_at hl 2 rfl) ?_
        refine lv_aload_n hx hb dX7_takeTurn_16 rfl (lv_at hl 2 rfl) ?_
        refine h_geti (ci := 7) (C := RX7) (F := TX7) (N := 11) hx hb hts in7 hown hK hH (by decide) (rfl : kd 23 = 7) (by decide) rfl 2 (by decide) wd1 (fun _ h9 => h9) (by decide) rfl dX7_takeTurn_17 ?_
        refine sj_i (y := z_162) (up2_at _ _ _ _) ?_
        refine lv_iconst (v := 1) hx hb dX7_takeTurn_20 (by decide) ?_
        refine lv_iadd hx hb dX7_takeTurn_21 ?_
        obtain ⟨z_180, ez_180, hz_180⟩ := s_add (rfl : z_162.toInt = _) (show (1 : Int32).toInt = 1 from rfl) (by omega) (by omega)
        refine sj_i ez_180 ?_
        refine lv_aload_n hx hb dX7_takeTurn_22 rfl (lv_at hl 2 rfl) ?_
        refine h_geti (ci := 7) (C := RX7) (F := TX7) (N := 11) hx hb hts in7 hown hK hH (by decide) (rfl : kd 23 = 7) (by decide) rfl 1 (by decide) wd0 (fun _ h9 => h9) (by decide) rfl dX7_takeTurn_23 ?_
        refine sj_i (y := (i 23 1)) (up2_k _ _ (by decide)) ?_
        refine lv_icmp_ge (tgt := 38) hx hb dX7_takeTurn_26 (by decide) (fun h => absurd h (p_nle (rfl : (i 23 1).toInt = _) (rfl : z_180.toInt = _) (by omega))) (fun _ => ?_)
        refine lv_aload_n hx hb dX7_takeTurn_29 rfl (lv_at hl 2 rfl) ?_
        refine h_geti (ci := 7) (C := RX7) (F := TX7) (N := 11) hx hb hts in7 hown hK hH (by decide) (rfl : kd 23 = 7) (by decide) rfl 2 (by decide) wd1 (fun _ h9 => h9) (by decide) rfl dX7_takeTurn_30 ?_
        refine sj_i (y := z_162) (up2_at _ _ _ _) ?_
        refine lv_iconst (v := 1) hx hb dX7_takeTurn_33 (by decide) ?_
        refine lv_iadd hx hb dX7_takeTurn_34 ?_
        obtain ⟨z_181, ez_181, hz_181⟩ := s_add (rfl : z_162.toInt = _) (show (1 : Int32).toInt = 1 from rfl) (by omega) (by omega)
        refine sj_i ez_181 ?_
        refine lv_goto (tgt := 39) hx hb dX7_takeTurn_35 (by decide) ?_
        have hO_182 := okp hO_163 (n := 23) (k := 2) (v := z_181) (show (0 : Int) ≤ (z_181 : Int32).toInt ∧ (z_181 : Int32).toInt ≤ 2 from ⟨by omega, by omega⟩)
        refine h_puti (ty := .int) (ci := 7) (C := RX7) (F := TX7) (N := 11) hx hb hts in7 tyX7 tyX7_ok nmX7 hown hK hH hS (by decide) (rfl : kd 23 = 7) (by decide) rfl 2 (by decide) wd1 (fun _ h9 => h9) rfl (by decide +kernel) rfl rfl (by decide) rfl dX7_takeTurn_39 (fun H locs hH hS => ?_)
        refine lv_aload_n hx hb dX7_takeTurn_42 rfl (lv_at hl 2 rfl) ?_
        refine h_getr (ci := 7) (C := RX7) (F := TX7) (N := 11) hx hb hts in7 hown hK hH (by decide) (rfl : kd 23 = 7) (by decide) rfl 0 (by decide) wd2 (fun _ h9 => h9) (by decide) rfl (t := 24) (hR 23 0 rfl) (by decide) dX7_takeTurn_43 ?_
        refine lv_iload_n hx hb dX7_takeTurn_46 rfl (lv_at hl 0 rfl) ?_
        refine h_qald hx hb hK hH (by decide) (rfl : kd 24 = 28) (by decide) rfl (s_vin (N := 3) (rfl : z_162.toInt = _) (rfl : ln 24 = 3) (by omega) (by omega)) (t := 26) (by rw [show (z_162).toNatClampNeg = 1 by rw [s_cl (rfl : z_162.toInt = _)]; omega]; exact (hR 24 1 rfl)) (by decide) dX7_takeTurn_47 ?_
        have bx_183 : (-1 : Int) ≤ (i 26 1).toInt ∧ (i 26 1).toInt ≤ 23 := hO 26 1
        refine h_geti (ci := 10) (C := RX10) (F := TX10) (N := 8) hx hb hts in10 hown hK hH (by decide) (rfl : kd 26 = 10) (by decide) rfl 1 (by decide) wd3 (fun _ h9 => h9) (by decide) rfl dX7_takeTurn_48 ?_
        refine sj_i (y := (i 26 1)) ((congrFun (up2_n _ _ (by decide)) _).trans (congrFun (up2_n _ _ (by decide)) _)) ?_
        refine lv_if_ge (tgt := 65) hx hb dX7_takeTurn_51 (by decide) (fun c_184 => ?_) (fun c_184 => ?_)
        · skip
          have h_185 := s_le (show (0 : Int32).toInt = 0 from rfl) (rfl : (i 26 1).toInt = _) c_184
          refine lv_iload_n hx hb dX7_takeTurn_65 rfl (lv_at hl 0 rfl) ?_
          have hz0 : (0 : Int32).toInt = 0 := rfl
          have hz1 : (1 : Int32).toInt = 1 := rfl
          have hz2 : (2 : Int32).toInt = 2 := rfl
          have hw_186 : ((up2 (up2 i 23 2 z_162) 23 2 z_181) 23 1).toInt = ((i 23 1) : Int32).toInt := congrArg Int32.toInt (((up2_k _ _ (by decide)).trans (up2_k _ _ (by decide))))
          have hw_187 : ((up2 (up2 i 23 2 z_162) 23 2 z_181) 23 2).toInt = (z_181 : Int32).toInt := congrArg Int32.toInt ((up2_at _ _ _ _))
          have hw_188 : ((up2 (up2 i 23 2 z_162) 23 2 z_181) 23 4).toInt = ((i 23 4) : Int32).toInt := congrArg Int32.toInt (((up2_k _ _ (by decide)).trans (up2_k _ _ (by decide))))
          have hw_189 : ((up2 (up2 i 23 2 z_162) 23 2 z_181) 23 5).toInt = ((i 23 5) : Int32).toInt := congrArg Int32.toInt (((up2_k _ _ (by decide)).trans (up2_k _ _ (by decide))))
          have hw_190 : ((up2 (up2 i 23 2 z_162) 23 2 z_181) 23 6).toInt = ((i 23 6) : Int32).toInt := congrArg Int32.toInt (((up2_k _ _ (by decide)).trans (up2_k _ _ (by decide))))
          have hw_191 : ((up2 (up2 i 23 2 z_162) 23 2 z_181) 23 7).toInt = ((i 23 7) : Int32).toInt := congrArg Int32.toInt (((up2_k _ _ (by decide)).trans (up2_k _ _ (by decide))))
          have hw_192 : ((up2 (up2 i 23 2 z_162) 23 2 z_181) 23 8).toInt = ((i 23 8) : Int32).toInt := congrArg Int32.toInt (((up2_k _ _ (by decide)).trans (up2_k _ _ (by decide))))
          have hw_193 : ((up2 (up2 i 23 2 z_162) 23 2 z_181) 23 10).toInt = ((i 23 10) : Int32).toInt := congrArg Int32.toInt (((up2_k _ _ (by decide)).trans (up2_k _ _ (by decide))))
          exact sj_zret hx hb hr hlocks rfl hS (up2 (up2 i 23 2 z_162) 23 2 z_181) ⟨hO_182, (fun a ha => ((up2_n _ _ (by omega)).trans (up2_n _ _ (by omega)))), ⟨by omega, by omega⟩, (by refine ⟨?_, ?_, ?_, ?_, ?_, ?_, ?_, ?_, ?_, ?_⟩ <;> omega)⟩ hH (sj_Knil hK) (Nat.le_of_ble_eq_true rfl) (Nat.le_of_ble_eq_true rfl) dX7_takeTurn_66
        · skip
          have h_194 := s_nle (show (0 : Int32).toInt = 0 from rfl) (rfl : (i 26 1).toInt = _) c_184
          refine lv_aload_n hx hb dX7_takeTurn_54 rfl (lv_at hl 2 rfl) ?_
          refine h_geti (ci := 7) (C := RX7) (F := TX7) (N := 11) hx hb hts in7 hown hK hH (by decide) (rfl : kd 23 = 7) (by decide) rfl 5 (by decide) wd4 (fun _ h9 => h9) (by decide) rfl dX7_takeTurn_55 ?_
          refine sj_i (y := (i 23 5)) ((up2_k _ _ (by decide)).trans (up2_k _ _ (by decide))) ?_
          refine lv_aload_n hx hb dX7_takeTurn_58 rfl (lv_at hl 2 rfl) ?_
          refine h_geti (ci := 7) (C := RX7) (F := TX7) (N := 11) hx hb hts in7 hown hK hH (by decide) (rfl : kd 23 = 7) (by decide) rfl 4 (by decide) wd5 (fun _ h9 => h9) (by decide) rfl dX7_takeTurn_59 ?_
          refine sj_i (y := (i 23 4)) ((up2_k _ _ (by decide)).trans (up2_k _ _ (by decide))) ?_
          refine lv_icmp_ge (tgt := 67) hx hb dX7_takeTurn_62 (by decide) (fun c_195 => ?_) (fun c_195 => ?_)
          · skip
            have h_196 := s_le (rfl : (i 23 4).toInt = _) (rfl : (i 23 5).toInt = _) c_195
            refine lv_iinc (v := 2) (lv' := [(1, .int 2), (2, .int z_162), (0, .ref (g 23))]) hx hb dX7_takeTurn_67 hl (k := 1) rfl (by decide) (by decide) rfl (fun ls hl => ?_)
            refine lv_goto (tgt := 2) hx hb dX7_takeTurn_70 (by decide) ?_
            refine lv_iload_n hx hb dX7_takeTurn_2 rfl (lv_at hl 0 rfl) ?_
            refine lv_aload_n hx hb dX7_takeTurn_3 rfl (lv_at hl 2 rfl) ?_
            refine h_geti (ci := 7) (C := RX7) (F := TX7) (N := 11) hx hb hts in7 hown hK hH (by decide) (rfl : kd 23 = 7) (by decide) rfl 1 (by decide) wd0 (fun _ h9 => h9) (by decide) rfl dX7_takeTurn_4 ?_
            refine sj_i (y := (i 23 1)) ((up2_k _ _ (by decide)).trans (up2_k _ _ (by decide))) ?_
            refine lv_icmp_ge (tgt := 73) hx hb dX7_takeTurn_7 (by decide) (fun h => absurd h (p_nle (rfl : (i 23 1).toInt = _) (show (2 : Int32).toInt = 2 from rfl) (by omega))) (fun _ => ?_)
            refine lv_aload_n hx hb dX7_takeTurn_10 rfl (lv_at hl 2 rfl) ?_
            refine h_geti (ci := 7) (C := RX7) (F := TX7) (N := 11) hx hb hts in7 hown hK hH (by decide) (rfl : kd 23 = 7) (by decide) rfl 2 (by decide) wd1 (fun _ h9 => h9) (by decide) rfl dX7_takeTurn_11 ?_
            refine sj_i (y := z_181) (up2_at _ _ _ _) ?_
            refine lv_istore_n (lv' := [(2, .int z_181), (1, .int 2), (0, .ref (g 23))]) hx hb dX7_takeTurn_14 rfl hl (by decide) rfl (fun ls hl => ?_)
            refine lv_aload_n hx hb dX7_takeTurn_15 rfl (lv_at hl 2 rfl) ?_
            refine lv_aload_n hx hb dX7_takeTurn_16 rfl (lv_at hl 2 rfl) ?_
            refine h_geti (ci := 7) (C := RX7) (F := TX7) (N := 11) hx hb hts in7 hown hK hH (by decide) (rfl : kd 23 = 7) (by decide) rfl 2 (by decide) wd1 (fun _ h9 => h9) (by decide) rfl dX7_takeTurn_17 ?_
            refine sj_i (y := z_181) (up2_at _ _ _ _) ?_
            refine lv_iconst (v := 1) hx hb dX7_takeTurn_20 (by decide) ?_
            refine lv_iadd hx hb dX7_takeTurn_21 ?_
            obtain ⟨z_197, ez_197, hz_197⟩ := s_add (rfl : z_181.toInt = _) (show (1 : Int32).toInt = 1 from rfl) (by omega) (by omega)
            refine sj_i ez_197 ?_
            refine lv_aload_n hx hb dX7_takeTurn_22 rfl (lv_at hl 2 rfl) ?_
            refine h_geti (ci := 7) (C := RX7) (F := TX7) (N := 11) hx hb hts in7 hown hK hH (by decide) (rfl : kd 23 = 7) (by decide) rfl 1 (by decide) wd0 (fun _ h9 => h9) (by decide) rfl dX7_takeTurn_23 ?_
            refine sj_i (y := (i 23 1)) ((up2_k _ _ (by decide)).trans (up2_k _ _ (by decide))) ?_
            refine lv_icmp_ge (tgt := 38) hx hb dX7_takeTurn_26 (by decide) (fun _ => ?_) (fun h => absurd (p_le (rfl : (i 23 1).toInt = _) (rfl : z_197.toInt = _) (by omega)) h)
            refine lv_iconst (v := 0) hx hb dX7_takeTurn_38 (by decide) ?_
            have hO_198 := okp hO_182 (n := 23) (k := 2) (v := 0) (show (0 : Int) ≤ (0 : Int32).toInt ∧ (0 : Int32).toInt ≤ 2 from ⟨by decide, by decide⟩)
            refine h_puti (ty := .int) (ci := 7) (C := RX7) (F := TX7) (N := 11) hx hb hts in7 tyX7 tyX7_ok nmX7 hown hK hH hS (by decide) (rfl : kd 23 = 7) (by decide) rfl 2 (by decide) wd1 (fun _ h9 => h9) rfl (by decide +kernel) rfl rfl (by decide) rfl dX7_takeTurn_39 (fun H locs hH hS => ?_)
            refine lv_aload_n hx hb dX7_takeTurn_42 rfl (lv_at hl 2 rfl) ?_
            refine h_getr (ci := 7) (C := RX7) (F := TX7) (N := 11) hx hb hts in7 hown hK hH (by decide) (rfl : kd 23 = 7) (by decide) rfl 0 (by decide) wd2 (fun _ h9 => h9) (by decide) rfl (t := 24) (hR 23 0 rfl) (by decide) dX7_takeTurn_43 ?_
            refine lv_iload_n hx hb dX7_takeTurn_46 rfl (lv_at hl 0 rfl) ?_
            refine h_qald hx hb hK hH (by decide) (rfl : kd 24 = 28) (by decide) rfl (s_vin (N := 3) (rfl : z_181.toInt = _) (rfl : ln 24 = 3) (by omega) (by omega)) (t := 27) (by rw [show (z_181).toNatClampNeg = 2 by rw [s_cl (rfl : z_181.toInt = _)]; omega]; exact (hR 24 2 rfl)) (by decide) dX7_takeTurn_47 ?_
            have bx_199 : (-1 : Int) ≤ (i 27 1).toInt ∧ (i 27 1).toInt ≤ 23 := hO 27 1
            refine h_geti (ci := 10) (C := RX10) (F := TX10) (N := 8) hx hb hts in10 hown hK hH (by decide) (rfl : kd 27 = 10) (by decide) rfl 1 (by decide) wd3 (fun _ h9 => h9) (by decide) rfl dX7_takeTurn_48 ?_
            refine sj_i (y := (i 27 1)) ((congrFun (up2_n _ _ (by decide)) _).trans ((congrFun (up2_n _ _ (by decide)) _).trans (congrFun (up2_n _ _ (by decide)) _))) ?_
            refine lv_if_ge (tgt := 65) hx hb dX7_takeTurn_51 (by decide) (fun c_200 => ?_) (fun c_200 => ?_)
            · skip
              have h_201 := s_le (show (0 : Int32).toInt = 0 from rfl) (rfl : (i 27 1).toInt = _) c_200
              refine lv_iload_n hx hb dX7_takeTurn_65 rfl (lv_at hl 0 rfl) ?_
              have hz0 : (0 : Int32).toInt = 0 := rfl
              have hz1 : (1 : Int32).toInt = 1 := rfl
              have hz2 : (2 : Int32).toInt = 2 := rfl
              have hw_202 : ((up2 (up2 (up2 i 23 2 z_162) 23 2 z_181) 23 2 0) 23 1).toInt = ((i 23 1) : Int32).toInt := congrArg Int32.toInt (((up2_k _ _ (by decide)).trans ((up2_k _ _ (by decide)).trans (up2_k _ _ (by decide)))))
              have hw_203 : ((up2 (up2 (up2 i 23 2 z_162) 23 2 z_181) 23 2 0) 23 2).toInt = (0 : Int32).toInt := congrArg Int32.toInt ((up2_at _ _ _ _))
              have hw_204 : ((up2 (up2 (up2 i 23 2 z_162) 23 2 z_181) 23 2 0) 23 4).toInt = ((i 23 4) : Int32).toInt := congrArg Int32.toInt (((up2_k _ _ (by decide)).trans ((up2_k _ _ (by decide)).trans (up2_k _ _ (by decide)))))
              have hw_205 : ((up2 (up2 (up2 i 23 2 z_162) 23 2 z_181) 23 2 0) 23 5).toInt = ((i 23 5) : Int32).toInt := congrArg Int32.toInt (((up2_k _ _ (by decide)).trans ((up2_k _ _ (by decide)).trans (up2_k _ _ (by decide)))))
              have hw_206 : ((up2 (up2 (up2 i 23 2 z_162) 23 2 z_181) 23 2 0) 23 6).toInt = ((i 23 6) : Int32).toInt := congrArg Int32.toInt (((up2_k _ _ (by decide)).trans ((up2_k _ _ (by decide)).trans (up2_k _ _ (by decide)))))
              have hw_207 : ((up2 (up2 (up2 i 23 2 z_162) 23 2 z_181) 23 2 0) 23 7).toInt = ((i 23 7) : Int32).toInt := congrArg Int32.toInt (((up2_k _ _ (by decide)).trans ((up2_k _ _ (by decide)).trans (up2_k _ _ (by decide)))))
              have hw_208 : ((up2 (up2 (up2 i 23 2 z_162) 23 2 z_181) 23 2 0) 23 8).toInt = ((i 23 8) : Int32).toInt := congrArg Int32.toInt (((up2_k _ _ (by decide)).trans ((up2_k _ _ (by decide)).trans (up2_k _ _ (by decide)))))
              have hw_209 : ((up2 (up2 (up2 i 23 2 z_162) 23 2 z_181) 23 2 0) 23 10).toInt = ((i 23 10) : Int32).toInt := congrArg Int32.toInt (((up2_k _ _ (by decide)).trans ((up2_k _ _ (by decide)).trans (up2_k _ _ (by decide)))))
              exact sj_zret hx hb hr hlocks rfl hS (up2 (up2 (up2 i 23 2 z_162) 23 2 z_181) 23 2 0) ⟨hO_198, (fun a ha => ((up2_n _ _ (by omega)).trans ((up2_n _ _ (by omega)).trans (up2_n _ _ (by omega))))), ⟨by omega, by omega⟩, (by refine ⟨?_, ?_, ?_, ?_, ?_, ?_, ?_, ?_, ?_, ?_⟩ <;> omega)⟩ hH (sj_Knil hK) (Nat.le_of_ble_eq_true rfl) (Nat.le_of_ble_eq_true rfl) dX7_takeTurn_66
            · skip
              have h_210 := s_nle (show (0 : Int32).toInt = 0 from rfl) (rfl : (i 27 1).toInt = _) c_200
              refine lv_aload_n hx hb dX7_takeTurn_54 rfl (lv_at hl 2 rfl) ?_
              refine h_geti (ci := 7) (C := RX7) (F := TX7) (N := 11) hx hb hts in7 hown hK hH (by decide) (rfl : kd 23 = 7) (by decide) rfl 5 (by decide) wd4 (fun _ h9 => h9) (by decide) rfl dX7_takeTurn_55 ?_
              refine sj_i (y := (i 23 5)) ((up2_k _ _ (by decide)).trans ((up2_k _ _ (by decide)).trans (up2_k _ _ (by decide)))) ?_
              refine lv_aload_n hx hb dX7_takeTurn_58 rfl (lv_at hl 2 rfl) ?_
              refine h_geti (ci := 7) (C := RX7) (F := TX7) (N := 11) hx hb hts in7 hown hK hH (by decide) (rfl : kd 23 = 7) (by decide) rfl 4 (by decide) wd5 (fun _ h9 => h9) (by decide) rfl dX7_takeTurn_59 ?_
              refine sj_i (y := (i 23 4)) ((up2_k _ _ (by decide)).trans ((up2_k _ _ (by decide)).trans (up2_k _ _ (by decide)))) ?_
              refine lv_icmp_ge (tgt := 67) hx hb dX7_takeTurn_62 (by decide) (fun c_211 => ?_) (fun c_211 => ?_)
              · skip
                have h_212 := s_le (rfl : (i 23 4).toInt = _) (rfl : (i 23 5).toInt = _) c_211
                refine lv_iinc (v := 3) (lv' := [(1, .int 3), (2, .int z_181), (0, .ref (g 23))]) hx hb dX7_takeTurn_67 hl (k := 1) rfl (by decide) (by decide) rfl (fun ls hl => ?_)
                refine lv_goto (tgt := 2) hx hb dX7_takeTurn_70 (by decide) ?_
                refine lv_iload_n hx hb dX7_takeTurn_2 rfl (lv_at hl 0 rfl) ?_
                refine lv_aload_n hx hb dX7_takeTurn_3 rfl (lv_at hl 2 rfl) ?_
                refine h_geti (ci := 7) (C := RX7) (F := TX7) (N := 11) hx hb hts in7 hown hK hH (by decide) (rfl : kd 23 = 7) (by decide) rfl 1 (by decide) wd0 (fun _ h9 => h9) (by decide) rfl dX7_takeTurn_4 ?_
                refine sj_i (y := (i 23 1)) ((up2_k _ _ (by decide)).trans ((up2_k _ _ (by decide)).trans (up2_k _ _ (by decide)))) ?_
                refine lv_icmp_ge (tgt := 73) hx hb dX7_takeTurn_7 (by decide) (fun _ => ?_) (fun h => absurd (p_le (rfl : (i 23 1).toInt = _) (show (3 : Int32).toInt = 3 from rfl) (by omega)) h)
                refine lv_aload_n hx hb dX7_takeTurn_73 rfl (lv_at hl 2 rfl) ?_
                refine h_geti (ci := 7) (C := RX7) (F := TX7) (N := 11) hx hb hts in7 hown hK hH (by decide) (rfl : kd 23 = 7) (by decide) rfl 2 (by decide) wd1 (fun _ h9 => h9) (by decide) rfl dX7_takeTurn_74 ?_
                refine sj_i (y := 0) (up2_at _ _ _ _) ?_
                have hlv_213 : (0 : Int32).toInt = 0 := rfl
                have hz0 : (0 : Int32).toInt = 0 := rfl
                have hz1 : (1 : Int32).toInt = 1 := rfl
                have hz2 : (2 : Int32).toInt = 2 := rfl
                have hw_214 : ((up2 (up2 (up2 i 23 2 z_162) 23 2 z_181) 23 2 0) 23 1).toInt = ((i 23 1) : Int32).toInt := congrArg Int32.toInt (((up2_k _ _ (by decide)).trans ((up2_k _ _ (by decide)).trans (up2_k _ _ (by decide)))))
                have hw_215 : ((up2 (up2 (up2 i 23 2 z_162) 23 2 z_181) 23 2 0) 23 2).toInt = (0 : Int32).toInt := congrArg Int32.toInt ((up2_at _ _ _ _))
                have hw_216 : ((up2 (up2 (up2 i 23 2 z_162) 23 2 z_181) 23 2 0) 23 4).toInt = ((i 23 4) : Int32).toInt := congrArg Int32.toInt (((up2_k _ _ (by decide)).trans ((up2_k _ _ (by decide)).trans (up2_k _ _ (by decide)))))
                have hw_217 : ((up2 (up2 (up2 i 23 2 z_162) 23 2 z_181) 23 2 0) 23 5).toInt = ((i 23 5) : Int32).toInt := congrArg Int32.toInt (((up2_k _ _ (by decide)).trans ((up2_k _ _ (by decide)).trans (up2_k _ _ (by decide)))))
                have hw_218 : ((up2 (up2 (up2 i 23 2 z_162) 23 2 z_181) 23 2 0) 23 6).toInt = ((i 23 6) : Int32).toInt := congrArg Int32.toInt (((up2_k _ _ (by decide)).trans ((up2_k _ _ (by decide)).trans (up2_k _ _ (by decide)))))
                have hw_219 : ((up2 (up2 (up2 i 23 2 z_162) 23 2 z_181) 23 2 0) 23 7).toInt = ((i 23 7) : Int32).toInt := congrArg Int32.toInt (((up2_k _ _ (by decide)).trans ((up2_k _ _ (by decide)).trans (up2_k _ _ (by decide)))))
                have hw_220 : ((up2 (up2 (up2 i 23 2 z_162) 23 2 z_181) 23 2 0) 23 8).toInt = ((i 23 8) : Int32).toInt := congrArg Int32.toInt (((up2_k _ _ (by decide)).trans ((up2_k _ _ (by decide)).trans (up2_k _ _ (by decide)))))
                have hw_221 : ((up2 (up2 (up2 i 23 2 z_162) 23 2 z_181) 23 2 0) 23 10).toInt = ((i 23 10) : Int32).toInt := congrArg Int32.toInt (((up2_k _ _ (by decide)).trans ((up2_k _ _ (by decide)).trans (up2_k _ _ (by decide)))))
                exact sj_zret hx hb hr hlocks rfl hS (up2 (up2 (up2 i 23 2 z_162) 23 2 z_181) 23 2 0) ⟨hO_198, (fun a ha => ((up2_n _ _ (by omega)).trans ((up2_n _ _ (by omega)).trans (up2_n _ _ (by omega))))), ⟨by decide, by decide⟩, (by refine ⟨?_, ?_, ?_, ?_, ?_, ?_, ?_, ?_, ?_, ?_⟩ <;> omega)⟩ hH (sj_Knil hK) (Nat.le_of_ble_eq_true rfl) (Nat.le_of_ble_eq_true rfl) dX7_takeTurn_77
              · skip
                have h_222 := s_nle (rfl : (i 23 4).toInt = _) (rfl : (i 23 5).toInt = _) c_211
                refine lv_iload_n hx hb dX7_takeTurn_65 rfl (lv_at hl 0 rfl) ?_
                have hz0 : (0 : Int32).toInt = 0 := rfl
                have hz1 : (1 : Int32).toInt = 1 := rfl
                have hz2 : (2 : Int32).toInt = 2 := rfl
                have hw_223 : ((up2 (up2 (up2 i 23 2 z_162) 23 2 z_181) 23 2 0) 23 1).toInt = ((i 23 1) : Int32).toInt := congrArg Int32.toInt (((up2_k _ _ (by decide)).trans ((up2_k _ _ (by decide)).trans (up2_k _ _ (by decide)))))
                have hw_224 : ((up2 (up2 (up2 i 23 2 z_162) 23 2 z_181) 23 2 0) 23 2).toInt = (0 : Int32).toInt := congrArg Int32.toInt ((up2_at _ _ _ _))
                have hw_225 : ((up2 (up2 (up2 i 23 2 z_162) 23 2 z_181) 23 2 0) 23 4).toInt = ((i 23 4) : Int32).toInt := congrArg Int32.toInt (((up2_k _ _ (by decide)).trans ((up2_k _ _ (by decide)).trans (up2_k _ _ (by decide)))))
                have hw_226 : ((up2 (up2 (up2 i 23 2 z_162) 23 2 z_181) 23 2 0) 23 5).toInt = ((i 23 5) : Int32).toInt := congrArg Int32.toInt (((up2_k _ _ (by decide)).trans ((up2_k _ _ (by decide)).trans (up2_k _ _ (by decide)))))
                have hw_227 : ((up2 (up2 (up2 i 23 2 z_162) 23 2 z_181) 23 2 0) 23 6).toInt = ((i 23 6) : Int32).toInt := congrArg Int32.toInt (((up2_k _ _ (by decide)).trans ((up2_k _ _ (by decide)).trans (up2_k _ _ (by decide)))))
                have hw_228 : ((up2 (up2 (up2 i 23 2 z_162) 23 2 z_181) 23 2 0) 23 7).toInt = ((i 23 7) : Int32).toInt := congrArg Int32.toInt (((up2_k _ _ (by decide)).trans ((up2_k _ _ (by decide)).trans (up2_k _ _ (by decide)))))
                have hw_229 : ((up2 (up2 (up2 i 23 2 z_162) 23 2 z_181) 23 2 0) 23 8).toInt = ((i 23 8) : Int32).toInt := congrArg Int32.toInt (((up2_k _ _ (by decide)).trans ((up2_k _ _ (by decide)).trans (up2_k _ _ (by decide)))))
                have hw_230 : ((up2 (up2 (up2 i 23 2 z_162) 23 2 z_181) 23 2 0) 23 10).toInt = ((i 23 10) : Int32).toInt := congrArg Int32.toInt (((up2_k _ _ (by decide)).trans ((up2_k _ _ (by decide)).trans (up2_k _ _ (by decide)))))
                exact sj_zret hx hb hr hlocks rfl hS (up2 (up2 (up2 i 23 2 z_162) 23 2 z_181) 23 2 0) ⟨hO_198, (fun a ha => ((up2_n _ _ (by omega)).trans ((up2_n _ _ (by omega)).trans (up2_n _ _ (by omega))))), ⟨by omega, by omega⟩, (by refine ⟨?_, ?_, ?_, ?_, ?_, ?_, ?_, ?_, ?_, ?_⟩ <;> omega)⟩ hH (sj_Knil hK) (Nat.le_of_ble_eq_true rfl) (Nat.le_of_ble_eq_true rfl) dX7_takeTurn_66
          · skip
            have h_231 := s_nle (rfl : (i 23 4).toInt = _) (rfl : (i 23 5).toInt = _) c_195
            refine lv_iload_n hx hb dX7_takeTurn_65 rfl (lv_at hl 0 rfl) ?_
            have hz0 : (0 : Int32).toInt = 0 := rfl
            have hz1 : (1 : Int32).toInt = 1 := rfl
            have hz2 : (2 : Int32).toInt = 2 := rfl
            have hw_232 : ((up2 (up2 i 23 2 z_162) 23 2 z_181) 23 1).toInt = ((i 23 1) : Int32).toInt := congrArg Int32.toInt (((up2_k _ _ (by decide)).trans (up2_k _ _ (by decide))))
            have hw_233 : ((up2 (up2 i 23 2 z_162) 23 2 z_181) 23 2).toInt = (z_181 : Int32).toInt := congrArg Int32.toInt ((up2_at _ _ _ _))
            have hw_234 : ((up2 (up2 i 23 2 z_162) 23 2 z_181) 23 4).toInt = ((i 23 4) : Int32).toInt := congrArg Int32.toInt (((up2_k _ _ (by decide)).trans (up2_k _ _ (by decide))))
            have hw_235 : ((up2 (up2 i 23 2 z_162) 23 2 z_181) 23 5).toInt = ((i 23 5) : Int32).toInt := congrArg Int32.toInt (((up2_k _ _ (by decide)).trans (up2_k _ _ (by decide))))
            have hw_236 : ((up2 (up2 i 23 2 z_162) 23 2 z_181) 23 6).toInt = ((i 23 6) : Int32).toInt := congrArg Int32.toInt (((up2_k _ _ (by decide)).trans (up2_k _ _ (by decide))))
            have hw_237 : ((up2 (up2 i 23 2 z_162) 23 2 z_181) 23 7).toInt = ((i 23 7) : Int32).toInt := congrArg Int32.toInt (((up2_k _ _ (by decide)).trans (up2_k _ _ (by decide))))
            have hw_238 : ((up2 (up2 i 23 2 z_162) 23 2 z_181) 23 8).toInt = ((i 23 8) : Int32).toInt := congrArg Int32.toInt (((up2_k _ _ (by decide)).trans (up2_k _ _ (by decide))))
            have hw_239 : ((up2 (up2 i 23 2 z_162) 23 2 z_181) 23 10).toInt = ((i 23 10) : Int32).toInt := congrArg Int32.toInt (((up2_k _ _ (by decide)).trans (up2_k _ _ (by decide))))
            exact sj_zret hx hb hr hlocks rfl hS (up2 (up2 i 23 2 z_162) 23 2 z_181) ⟨hO_182, (fun a ha => ((up2_n _ _ (by omega)).trans (up2_n _ _ (by omega)))), ⟨by omega, by omega⟩, (by refine ⟨?_, ?_, ?_, ?_, ?_, ?_, ?_, ?_, ?_, ?_⟩ <;> omega)⟩ hH (sj_Knil hK) (Nat.le_of_ble_eq_true rfl) (Nat.le_of_ble_eq_true rfl) dX7_takeTurn_66
      · skip
        have h_240 := s_nle (rfl : (i 23 4).toInt = _) (rfl : (i 23 5).toInt = _) c_178
        refine lv_iload_n hx hb dX7_takeTurn_65 rfl (lv_at hl 0 rfl) ?_
        have hz0 : (0 : Int32).toInt = 0 := rfl
        have hz1 : (1 : Int32).toInt = 1 := rfl
        have hz2 : (2 : Int32).toInt = 2 := rfl
        have hw_241 : ((up2 i 23 2 z_162) 23 1).toInt = ((i 23 1) : Int32).toInt := congrArg Int32.toInt ((up2_k _ _ (by decide)))
        have hw_242 : ((up2 i 23 2 z_162) 23 2).toInt = (z_162 : Int32).toInt := congrArg Int32.toInt ((up2_at _ _ _ _))
        have hw_243 : ((up2 i 23 2 z_162) 23 4).toInt = ((i 23 4) : Int32).toInt := congrArg Int32.toInt ((up2_k _ _ (by decide)))
        have hw_244 : ((up2 i 23 2 z_162) 23 5).toInt = ((i 23 5) : Int32).toInt := congrArg Int32.toInt ((up2_k _ _ (by decide)))
        have hw_245 : ((up2 i 23 2 z_162) 23 6).toInt = ((i 23 6) : Int32).toInt := congrArg Int32.toInt ((up2_k _ _ (by decide)))
        have hw_246 : ((up2 i 23 2 z_162) 23 7).toInt = ((i 23 7) : Int32).toInt := congrArg Int32.toInt ((up2_k _ _ (by decide)))
        have hw_247 : ((up2 i 23 2 z_162) 23 8).toInt = ((i 23 8) : Int32).toInt := congrArg Int32.toInt ((up2_k _ _ (by decide)))
        have hw_248 : ((up2 i 23 2 z_162) 23 10).toInt = ((i 23 10) : Int32).toInt := congrArg Int32.toInt ((up2_k _ _ (by decide)))
        exact sj_zret hx hb hr hlocks rfl hS (up2 i 23 2 z_162) ⟨hO_163, (fun a ha => (up2_n _ _ (by omega))), ⟨by omega, by omega⟩, (by refine ⟨?_, ?_, ?_, ?_, ?_, ?_, ?_, ?_, ?_, ?_⟩ <;> omega)⟩ hH (sj_Knil hK) (Nat.le_of_ble_eq_true rfl) (Nat.le_of_ble_eq_true rfl) dX7_takeTurn_66
  · skip
    refine lv_iconst (v := 0) hx hb dX7_takeTurn_0 (by decide) ?_
    refine lv_istore_n (lv' := [(1, .int 0), (0, .ref (g 23))]) hx hb dX7_takeTurn_1 rfl hl (by decide) rfl (fun ls hl => ?_)
    refine lv_iload_n hx hb dX7_takeTurn_2 rfl (lv_at hl 0 rfl) ?_
    refine lv_aload_n hx hb dX7_takeTurn_3 rfl (lv_at hl 1 rfl) ?_
    refine h_geti (ci := 7) (C := RX7) (F := TX7) (N := 11) hx hb hts in7 hown hK hH (by decide) (rfl : kd 23 = 7) (by decide) rfl 1 (by decide) wd0 (fun _ h9 => h9) (by decide) rfl dX7_takeTurn_4 ?_
    refine lv_icmp_ge (tgt := 73) hx hb dX7_takeTurn_7 (by decide) (fun h => absurd h (p_nle (rfl : (i 23 1).toInt = _) (show (0 : Int32).toInt = 0 from rfl) (by omega))) (fun _ => ?_)
    refine lv_aload_n hx hb dX7_takeTurn_10 rfl (lv_at hl 1 rfl) ?_
    refine h_geti (ci := 7) (C := RX7) (F := TX7) (N := 11) hx hb hts in7 hown hK hH (by decide) (rfl : kd 23 = 7) (by decide) rfl 2 (by decide) wd1 (fun _ h9 => h9) (by decide) rfl dX7_takeTurn_11 ?_
    refine lv_istore_n (lv' := [(2, .int (i 23 2)), (1, .int 0), (0, .ref (g 23))]) hx hb dX7_takeTurn_14 rfl hl (by decide) rfl (fun ls hl => ?_)
    refine lv_aload_n hx hb dX7_takeTurn_15 rfl (lv_at hl 2 rfl) ?_
    refine lv_aload_n hx hb dX7_takeTurn_16 rfl (lv_at hl 2 rfl) ?_
    refine h_geti (ci := 7) (C := RX7) (F := TX7) (N := 11) hx hb hts in7 hown hK hH (by decide) (rfl : kd 23 = 7) (by decide) rfl 2 (by decide) wd1 (fun _ h9 => h9) (by decide) rfl dX7_takeTurn_17 ?_
    refine lv_iconst (v := 1) hx hb dX7_takeTurn_20 (by decide) ?_
    refine lv_iadd hx hb dX7_takeTurn_21 ?_
    obtain ⟨z_249, ez_249, hz_249⟩ := s_add (rfl : (i 23 2).toInt = _) (show (1 : Int32).toInt = 1 from rfl) (by omega) (by omega)
    refine sj_i ez_249 ?_
    refine lv_aload_n hx hb dX7_takeTurn_22 rfl (lv_at hl 2 rfl) ?_
    refine h_geti (ci := 7) (C := RX7) (F := TX7) (N := 11) hx hb hts in7 hown hK hH (by decide) (rfl : kd 23 = 7) (by decide) rfl 1 (by decide) wd0 (fun _ h9 => h9) (by decide) rfl dX7_takeTurn_23 ?_
    refine lv_icmp_ge (tgt := 38) hx hb dX7_takeTurn_26 (by decide) (fun h => absurd h (p_nle (rfl : (i 23 1).toInt = _) (rfl : z_249.toInt = _) (by omega))) (fun _ => ?_)
    refine lv_aload_n hx hb dX7_takeTurn_29 rfl (lv_at hl 2 rfl) ?_
    refine h_geti (ci := 7) (C := RX7) (F := TX7) (N := 11) hx hb hts in7 hown hK hH (by decide) (rfl : kd 23 = 7) (by decide) rfl 2 (by decide) wd1 (fun _ h9 => h9) (by decide) rfl dX7_takeTurn_30 ?_
    refine lv_iconst (v := 1) hx hb dX7_takeTurn_33 (by decide) ?_
    refine lv_iadd hx hb dX7_takeTurn_34 ?_
    obtain ⟨z_250, ez_250, hz_250⟩ := s_add (rfl : (i 23 2).toInt = _) (show (1 : Int32).toInt = 1 from rfl) (by omega) (by omega)
    refine sj_i ez_250 ?_
    refine lv_goto (tgt := 39) hx hb dX7_takeTurn_35 (by decide) ?_
    have hO_251 := okp hO (n := 23) (k := 2) (v := z_250) (show (0 : Int) ≤ (z_250 : Int32).toInt ∧ (z_250 : Int32).toInt ≤ 2 from ⟨by omega, by omega⟩)
    refine h_puti (ty := .int) (ci := 7) (C := RX7) (F := TX7) (N := 11) hx hb hts in7 tyX7 tyX7_ok nmX7 hown hK hH hS (by decide) (rfl : kd 23 = 7) (by decide) rfl 2 (by decide) wd1 (fun _ h9 => h9) rfl (by decide +kernel) rfl rfl (by decide) rfl dX7_takeTurn_39 (fun H locs hH hS => ?_)
    refine lv_aload_n hx hb dX7_takeTurn_42 rfl (lv_at hl 2 rfl) ?_
    refine h_getr (ci := 7) (C := RX7) (F := TX7) (N := 11) hx hb hts in7 hown hK hH (by decide) (rfl : kd 23 = 7) (by decide) rfl 0 (by decide) wd2 (fun _ h9 => h9) (by decide) rfl (t := 24) (hR 23 0 rfl) (by decide) dX7_takeTurn_43 ?_
    refine lv_iload_n hx hb dX7_takeTurn_46 rfl (lv_at hl 0 rfl) ?_
    refine h_qald hx hb hK hH (by decide) (rfl : kd 24 = 28) (by decide) rfl (s_vin (N := 3) (rfl : (i 23 2).toInt = _) (rfl : ln 24 = 3) (by omega) (by omega)) (t := 26) (by rw [show ((i 23 2)).toNatClampNeg = 1 by rw [s_cl (rfl : (i 23 2).toInt = _)]; omega]; exact (hR 24 1 rfl)) (by decide) dX7_takeTurn_47 ?_
    have bx_252 : (-1 : Int) ≤ (i 26 1).toInt ∧ (i 26 1).toInt ≤ 23 := hO 26 1
    refine h_geti (ci := 10) (C := RX10) (F := TX10) (N := 8) hx hb hts in10 hown hK hH (by decide) (rfl : kd 26 = 10) (by decide) rfl 1 (by decide) wd3 (fun _ h9 => h9) (by decide) rfl dX7_takeTurn_48 ?_
    refine sj_i (y := (i 26 1)) (congrFun (up2_n _ _ (by decide)) _) ?_
    refine lv_if_ge (tgt := 65) hx hb dX7_takeTurn_51 (by decide) (fun c_253 => ?_) (fun c_253 => ?_)
    · skip
      have h_254 := s_le (show (0 : Int32).toInt = 0 from rfl) (rfl : (i 26 1).toInt = _) c_253
      refine lv_iload_n hx hb dX7_takeTurn_65 rfl (lv_at hl 0 rfl) ?_
      have hz0 : (0 : Int32).toInt = 0 := rfl
      have hz1 : (1 : Int32).toInt = 1 := rfl
      have hz2 : (2 : Int32).toInt = 2 := rfl
      have hw_255 : ((up2 i 23 2 z_250) 23 1).toInt = ((i 23 1) : Int32).toInt := congrArg Int32.toInt ((up2_k _ _ (by decide)))
      have hw_256 : ((up2 i 23 2 z_250) 23 2).toInt = (z_250 : Int32).toInt := congrArg Int32.toInt ((up2_at _ _ _ _))
      have hw_257 : ((up2 i 23 2 z_250) 23 4).toInt = ((i 23 4) : Int32).toInt := congrArg Int32.toInt ((up2_k _ _ (by decide)))
      have hw_258 : ((up2 i 23 2 z_250) 23 5).toInt = ((i 23 5) : Int32).toInt := congrArg Int32.toInt ((up2_k _ _ (by decide)))
      have hw_259 : ((up2 i 23 2 z_250) 23 6).toInt = ((i 23 6) : Int32).toInt := congrArg Int32.toInt ((up2_k _ _ (by decide)))
      have hw_260 : ((up2 i 23 2 z_250) 23 7).toInt = ((i 23 7) : Int32).toInt := congrArg Int32.toInt ((up2_k _ _ (by decide)))
      have hw_261 : ((up2 i 23 2 z_250) 23 8).toInt = ((i 23 8) : Int32).toInt := congrArg Int32.toInt ((up2_k _ _ (by decide)))
      have hw_262 : ((up2 i 23 2 z_250) 23 10).toInt = ((i 23 10) : Int32).toInt := congrArg Int32.toInt ((up2_k _ _ (by decide)))
      exact sj_zret hx hb hr hlocks rfl hS (up2 i 23 2 z_250) ⟨hO_251, (fun a ha => (up2_n _ _ (by omega))), ⟨by omega, by omega⟩, (by refine ⟨?_, ?_, ?_, ?_, ?_, ?_, ?_, ?_, ?_, ?_⟩ <;> omega)⟩ hH (sj_Knil hK) (Nat.le_of_ble_eq_true rfl) (Nat.le_of_ble_eq_true rfl) dX7_takeTurn_66
    · skip
      have h_263 := s_nle (show (0 : Int32).toInt = 0 from rfl) (rfl : (i 26 1).toInt = _) c_253
      refine lv_aload_n hx hb dX7_takeTurn_54 rfl (lv_at hl 2 rfl) ?_
      have bx_264 : (0 : Int) ≤ (i 23 5).toInt ∧ (i 23 5).toInt ≤ 24 := hO 23 5
      refine h_geti (ci := 7) (C := RX7) (F := TX7) (N := 11) hx hb hts in7 hown hK hH (by decide) (rfl : kd 23 = 7) (by decide) rfl 5 (by decide) wd4 (fun _ h9 => h9) (by decide) rfl dX7_takeTurn_55 ?_
      refine sj_i (y := (i 23 5)) (up2_k _ _ (by decide)) ?_
      refine lv_aload_n hx hb dX7_takeTurn_58 rfl (lv_at hl 2 rfl) ?_
      have bx_265 : (0 : Int) ≤ (i 23 4).toInt ∧ (i 23 4).toInt ≤ 24 := hO 23 4
      refine h_geti (ci := 7) (C := RX7) (F := TX7) (N := 11) hx hb hts in7 hown hK hH (by decide) (rfl : kd 23 = 7) (by decide) rfl 4 (by decide) wd5 (fun _ h9 => h9) (by decide) rfl dX7_takeTurn_59 ?_
      refine sj_i (y := (i 23 4)) (up2_k _ _ (by decide)) ?_
      refine lv_icmp_ge (tgt := 67) hx hb dX7_takeTurn_62 (by decide) (fun c_266 => ?_) (fun c_266 => ?_)
      · skip
        have h_267 := s_le (rfl : (i 23 4).toInt = _) (rfl : (i 23 5).toInt = _) c_266
        refine lv_iinc (v := 1) (lv' := [(1, .int 1), (2, .int (i 23 2)), (0, .ref (g 23))]) hx hb dX7_takeTurn_67 hl (k := 1) rfl (by decide) (by decide) rfl (fun ls hl => ?_)
        refine lv_goto (tgt := 2) hx hb dX7_takeTurn_70 (by decide) ?_
        refine lv_iload_n hx hb dX7_takeTurn_2 rfl (lv_at hl 0 rfl) ?_
        refine lv_aload_n hx hb dX7_takeTurn_3 rfl (lv_at hl 2 rfl) ?_
        refine h_geti (ci := 7) (C := RX7) (F := TX7) (N := 11) hx hb hts in7 hown hK hH (by decide) (rfl : kd 23 = 7) (by decide) rfl 1 (by decide) wd0 (fun _ h9 => h9) (by decide) rfl dX7_takeTurn_4 ?_
        refine sj_i (y := (i 23 1)) (up2_k _ _ (by decide)) ?_
        refine lv_icmp_ge (tgt := 73) hx hb dX7_takeTurn_7 (by decide) (fun h => absurd h (p_nle (rfl : (i 23 1).toInt = _) (show (1 : Int32).toInt = 1 from rfl) (by omega))) (fun _ => ?_)
        refine lv_aload_n hx hb dX7_takeTurn_10 rfl (lv_at hl 2 rfl) ?_
        refine h_geti (ci := 7) (C := RX7) (F := TX7) (N := 11) hx hb hts in7 hown hK hH (by decide) (rfl : kd 23 = 7) (by decide) rfl 2 (by decide) wd1 (fun _ h9 => h9) (by decide) rfl dX7_takeTurn_11 ?_
        refine sj_i (y := z_250) (up2_at _ _ _ _) ?_
        refine lv_istore_n (lv' := [(2, .int z_250), (1, .int 1), (0, .ref (g 23))]) hx hb dX7_takeTurn_14 rfl hl (by decide) rfl (fun ls hl => ?_)
        refine lv_aload_n hx hb dX7_takeTurn_15 rfl (lv_at hl 2 rfl) ?_
        refine lv_aload_n hx hb dX7_takeTurn_16 rfl (lv_at hl 2 rfl) ?_
        refine h_geti (ci := 7) (C := RX7) (F := TX7) (N := 11) hx hb hts in7 hown hK hH (by decide) (rfl : kd 23 = 7) (by decide) rfl 2 (by decide) wd1 (fun _ h9 => h9) (by decide) rfl dX7_takeTurn_17 ?_
        refine sj_i (y := z_250) (up2_at _ _ _ _) ?_
        refine lv_iconst (v := 1) hx hb dX7_takeTurn_20 (by decide) ?_
        refine lv_iadd hx hb dX7_takeTurn_21 ?_
        obtain ⟨z_268, ez_268, hz_268⟩ := s_add (rfl : z_250.toInt = _) (show (1 : Int32).toInt = 1 from rfl) (by omega) (by omega)
        refine sj_i ez_268 ?_
        refine lv_aload_n hx hb dX7_takeTurn_22 rfl (lv_at hl 2 rfl) ?_
        refine h_geti (ci := 7) (C := RX7) (F := TX7) (N := 11) hx hb hts in7 hown hK hH (by decide) (rfl : kd 23 = 7) (by decide) rfl 1 (by decide) wd0 (fun _ h9 => h9) (by decide) rfl dX7_takeTurn_23 ?_
        refine sj_i (y := (i 23 1)) (up2_k _ _ (by decide)) ?_
        refine lv_icmp_ge (tgt := 38) hx hb dX7_takeTurn_26 (by decide) (fun _ => ?_) (fun h => absurd (p_le (rfl : (i 23 1).toInt = _) (rfl : z_268.toInt = _) (by omega)) h)
        refine lv_iconst (v := 0) hx hb dX7_takeTurn_38 (by decide) ?_
        have hO_269 := okp hO_251 (n := 23) (k := 2) (v := 0) (show (0 : Int) ≤ (0 : Int32).toInt ∧ (0 : Int32).toInt ≤ 2 from ⟨by decide, by decide⟩)
        refine h_puti (ty := .int) (ci := 7) (C := RX7) (F := TX7) (N := 11) hx hb hts in7 tyX7 tyX7_ok nmX7 hown hK hH hS (by decide) (rfl : kd 23 = 7) (by decide) rfl 2 (by decide) wd1 (fun _ h9 => h9) rfl (by decide +kernel) rfl rfl (by decide) rfl dX7_takeTurn_39 (fun H locs hH hS => ?_)
        refine lv_aload_n hx hb dX7_takeTurn_42 rfl (lv_at hl 2 rfl) ?_
        refine h_getr (ci := 7) (C := RX7) (F := TX7) (N := 11) hx hb hts in7 hown hK hH (by decide) (rfl : kd 23 = 7) (by decide) rfl 0 (by decide) wd2 (fun _ h9 => h9) (by decide) rfl (t := 24) (hR 23 0 rfl) (by decide) dX7_takeTurn_43 ?_
        refine lv_iload_n hx hb dX7_takeTurn_46 rfl (lv_at hl 0 rfl) ?_
        refine h_qald hx hb hK hH (by decide) (rfl : kd 24 = 28) (by decide) rfl (s_vin (N := 3) (rfl : z_250.toInt = _) (rfl : ln 24 = 3) (by omega) (by omega)) (t := 27) (by rw [show (z_250).toNatClampNeg = 2 by rw [s_cl (rfl : z_250.toInt = _)]; omega]; exact (hR 24 2 rfl)) (by decide) dX7_takeTurn_47 ?_
        have bx_270 : (-1 : Int) ≤ (i 27 1).toInt ∧ (i 27 1).toInt ≤ 23 := hO 27 1
        refine h_geti (ci := 10) (C := RX10) (F := TX10) (N := 8) hx hb hts in10 hown hK hH (by decide) (rfl : kd 27 = 10) (by decide) rfl 1 (by decide) wd3 (fun _ h9 => h9) (by decide) rfl dX7_takeTurn_48 ?_
        refine sj_i (y := (i 27 1)) ((congrFun (up2_n _ _ (by decide)) _).trans (congrFun (up2_n _ _ (by decide)) _)) ?_
        refine lv_if_ge (tgt := 65) hx hb dX7_takeTurn_51 (by decide) (fun c_271 => ?_) (fun c_271 => ?_)
        · skip
          have h_272 := s_le (show (0 : Int32).toInt = 0 from rfl) (rfl : (i 27 1).toInt = _) c_271
          refine lv_iload_n hx hb dX7_takeTurn_65 rfl (lv_at hl 0 rfl) ?_
          have hz0 : (0 : Int32).toInt = 0 := rfl
          have hz1 : (1 : Int32).toInt = 1 := rfl
          have hz2 : (2 : Int32).toInt = 2 := rfl
          have hw_273 : ((up2 (up2 i 23 2 z_250) 23 2 0) 23 1).toInt = ((i 23 1) : Int32).toInt := congrArg Int32.toInt (((up2_k _ _ (by decide)).trans (up2_k _ _ (by decide))))
          have hw_274 : ((up2 (up2 i 23 2 z_250) 23 2 0) 23 2).toInt = (0 : Int32).toInt := congrArg Int32.toInt ((up2_at _ _ _ _))
          have hw_275 : ((up2 (up2 i 23 2 z_250) 23 2 0) 23 4).toInt = ((i 23 4) : Int32).toInt := congrArg Int32.toInt (((up2_k _ _ (by decide)).trans (up2_k _ _ (by decide))))
          have hw_276 : ((up2 (up2 i 23 2 z_250) 23 2 0) 23 5).toInt = ((i 23 5) : Int32).toInt := congrArg Int32.toInt (((up2_k _ _ (by decide)).trans (up2_k _ _ (by decide))))
          have hw_277 : ((up2 (up2 i 23 2 z_250) 23 2 0) 23 6).toInt = ((i 23 6) : Int32).toInt := congrArg Int32.toInt (((up2_k _ _ (by decide)).trans (up2_k _ _ (by decide))))
          have hw_278 : ((up2 (up2 i 23 2 z_250) 23 2 0) 23 7).toInt = ((i 23 7) : Int32).toInt := congrArg Int32.toInt (((up2_k _ _ (by decide)).trans (up2_k _ _ (by decide))))
          have hw_279 : ((up2 (up2 i 23 2 z_250) 23 2 0) 23 8).toInt = ((i 23 8) : Int32).toInt := congrArg Int32.toInt (((up2_k _ _ (by decide)).trans (up2_k _ _ (by decide))))
          have hw_280 : ((up2 (up2 i 23 2 z_250) 23 2 0) 23 10).toInt = ((i 23 10) : Int32).toInt := congrArg Int32.toInt (((up2_k _ _ (by decide)).trans (up2_k _ _ (by decide))))
          exact sj_zret hx hb hr hlocks rfl hS (up2 (up2 i 23 2 z_250) 23 2 0) ⟨hO_269, (fun a ha => ((up2_n _ _ (by omega)).trans (up2_n _ _ (by omega)))), ⟨by omega, by omega⟩, (by refine ⟨?_, ?_, ?_, ?_, ?_, ?_, ?_, ?_, ?_, ?_⟩ <;> omega)⟩ hH (sj_Knil hK) (Nat.le_of_ble_eq_true rfl) (Nat.le_of_ble_eq_true rfl) dX7_takeTurn_66
        · skip
          have h_281 := s_nle (show (0 : Int32).toInt = 0 from rfl) (rfl : (i 27 1).toInt = _) c_271
          refine lv_aload_n hx hb dX7_takeTurn_54 rfl (lv_at hl 2 rfl) ?_
          refine h_geti (ci := 7) (C := RX7) (F := TX7) (N := 11) hx hb hts in7 hown hK hH (by decide) (rfl : kd 23 = 7) (by decide) rfl 5 (by decide) wd4 (fun _ h9 => h9) (by decide) rfl dX7_takeTurn_55 ?_
          refine sj_i (y := (i 23 5)) ((up2_k _ _ (by decide)).trans (up2_k _ _ (by decide))) ?_
          refine lv_aload_n hx hb dX7_takeTurn_58 rfl (lv_at hl 2 rfl) ?_
          refine h_geti (ci := 7) (C := RX7) (F := TX7) (N := 11) hx hb hts in7 hown hK hH (by decide) (rfl : kd 23 = 7) (by decide) rfl 4 (by decide) wd5 (fun _ h9 => h9) (by decide) rfl dX7_takeTurn_59 ?_
          refine sj_i (y := (i 23 4)) ((up2_k _ _ (by decide)).trans (up2_k _ _ (by decide))) ?_
          refine lv_icmp_ge (tgt := 67) hx hb dX7_takeTurn_62 (by decide) (fun c_282 => ?_) (fun c_282 => ?_)
          · skip
            have h_283 := s_le (rfl : (i 23 4).toInt = _) (rfl : (i 23 5).toInt = _) c_282
            refine lv_iinc (v := 2) (lv' := [(1, .int 2), (2, .int z_250), (0, .ref (g 23))]) hx hb dX7_takeTurn_67 hl (k := 1) rfl (by decide) (by decide) rfl (fun ls hl => ?_)
            refine lv_goto (tgt := 2) hx hb dX7_takeTurn_70 (by decide) ?_
            refine lv_iload_n hx hb dX7_takeTurn_2 rfl (lv_at hl 0 rfl) ?_
            refine lv_aload_n hx hb dX7_takeTurn_3 rfl (lv_at hl 2 rfl) ?_
            refine h_geti (ci := 7) (C := RX7) (F := TX7) (N := 11) hx hb hts in7 hown hK hH (by decide) (rfl : kd 23 = 7) (by decide) rfl 1 (by decide) wd0 (fun _ h9 => h9) (by decide) rfl dX7_takeTurn_4 ?_
            refine sj_i (y := (i 23 1)) ((up2_k _ _ (by decide)).trans (up2_k _ _ (by decide))) ?_
            refine lv_icmp_ge (tgt := 73) hx hb dX7_takeTurn_7 (by decide) (fun h => absurd h (p_nle (rfl : (i 23 1).toInt = _) (show (2 : Int32).toInt = 2 from rfl) (by omega))) (fun _ => ?_)
            refine lv_aload_n hx hb dX7_takeTurn_10 rfl (lv_at hl 2 rfl) ?_
            refine h_geti (ci := 7) (C := RX7) (F := TX7) (N := 11) hx hb hts in7 hown hK hH (by decide) (rfl : kd 23 = 7) (by decide) rfl 2 (by decide) wd1 (fun _ h9 => h9) (by decide) rfl dX7_takeTurn_11 ?_
            refine sj_i (y := 0) (up2_at _ _ _ _) ?_
            refine lv_istore_n (lv' := [(2, .int 0), (1, .int 2), (0, .ref (g 23))]) hx hb dX7_takeTurn_14 rfl hl (by decide) rfl (fun ls hl => ?_)
            refine lv_aload_n hx hb dX7_takeTurn_15 rfl (lv_at hl 2 rfl) ?_
            refine lv_aload_n hx hb dX7_takeTurn_16 rfl (lv_at hl 2 rfl) ?_
            refine h_geti (ci := 7) (C := RX7) (F := TX7) (N := 11) hx hb hts in7 hown hK hH (by decide) (rfl : kd 23 = 7) (by decide) rfl 2 (by decide) wd1 (fun _ h9 => h9) (by decide) rfl dX7_takeTurn_17 ?_
            refine sj_i (y := 0) (up2_at _ _ _ _) ?_
            refine lv_iconst (v := 1) hx hb dX7_takeTurn_20 (by decide) ?_
            refine lv_iadd hx hb dX7_takeTurn_21 ?_
            refine sj_i (y := 1) (by decide) ?_
            refine lv_aload_n hx hb dX7_takeTurn_22 rfl (lv_at hl 2 rfl) ?_
            refine h_geti (ci := 7) (C := RX7) (F := TX7) (N := 11) hx hb hts in7 hown hK hH (by decide) (rfl : kd 23 = 7) (by decide) rfl 1 (by decide) wd0 (fun _ h9 => h9) (by decide) rfl dX7_takeTurn_23 ?_
            refine sj_i (y := (i 23 1)) ((up2_k _ _ (by decide)).trans (up2_k _ _ (by decide))) ?_
            refine lv_icmp_ge (tgt := 38) hx hb dX7_takeTurn_26 (by decide) (fun h => absurd h (p_nle (rfl : (i 23 1).toInt = _) (show (1 : Int32).toInt = 1 from rfl) (by omega))) (fun _ => ?_)
            refine lv_aload_n hx hb dX7_takeTurn_29 rfl (lv_at hl 2 rfl) ?_
            refine h_geti (ci := 7) (C := RX7) (F := TX7) (N := 11) hx hb hts in7 hown hK hH (by decide) (rfl : kd 23 = 7) (by decide) rfl 2 (by decide) wd1 (fun _ h9 => h9) (by decide) rfl dX7_takeTurn_30 ?_
            refine sj_i (y := 0) (up2_at _ _ _ _) ?_
            refine lv_iconst (v := 1) hx hb dX7_takeTurn_33 (by decide) ?_
            refine lv_iadd hx hb dX7_takeTurn_34 ?_
            refine sj_i (y := 1) (by decide) ?_
            refine lv_goto (tgt := 39) hx hb dX7_takeTurn_35 (by decide) ?_
            have hO_284 := okp hO_269 (n := 23) (k := 2) (v := 1) (show (0 : Int) ≤ (1 : Int32).toInt ∧ (1 : Int32).toInt ≤ 2 from ⟨by decide, by decide⟩)
            refine h_puti (ty := .int) (ci := 7) (C := RX7) (F := TX7) (N := 11) hx hb hts in7 tyX7 tyX7_ok nmX7 hown hK hH hS (by decide) (rfl : kd 23 = 7) (by decide) rfl 2 (by decide) wd1 (fun _ h9 => h9) rfl (by decide +kernel) rfl rfl (by decide) rfl dX7_takeTurn_39 (fun H locs hH hS => ?_)
            refine lv_aload_n hx hb dX7_takeTurn_42 rfl (lv_at hl 2 rfl) ?_
            refine h_getr (ci := 7) (C := RX7) (F := TX7) (N := 11) hx hb hts in7 hown hK hH (by decide) (rfl : kd 23 = 7) (by decide) rfl 0 (by decide) wd2 (fun _ h9 => h9) (by decide) rfl (t := 24) (hR 23 0 rfl) (by decide) dX7_takeTurn_43 ?_
            refine lv_iload_n hx hb dX7_takeTurn_46 rfl (lv_at hl 0 rfl) ?_
            refine h_qald hx hb hK hH (by decide) (rfl : kd 24 = 28) (by decide) rfl (s_vin (N := 3) (show (0 : Int32).toInt = 0 from rfl) (rfl : ln 24 = 3) (by omega) (by omega)) (t := 25) (hR 24 0 rfl) (by decide) dX7_takeTurn_47 ?_
            have bx_285 : (-1 : Int) ≤ (i 25 1).toInt ∧ (i 25 1).toInt ≤ 23 := hO 25 1
            refine h_geti (ci := 10) (C := RX10) (F := TX10) (N := 8) hx hb hts in10 hown hK hH (by decide) (rfl : kd 25 = 10) (by decide) rfl 1 (by decide) wd3 (fun _ h9 => h9) (by decide) rfl dX7_takeTurn_48 ?_
            refine sj_i (y := (i 25 1)) ((congrFun (up2_n _ _ (by decide)) _).trans ((congrFun (up2_n _ _ (by decide)) _).trans (congrFun (up2_n _ _ (by decide)) _))) ?_
            refine lv_if_ge (tgt := 65) hx hb dX7_takeTurn_51 (by decide) (fun c_286 => ?_) (fun c_286 => ?_)
            · skip
              have h_287 := s_le (show (0 : Int32).toInt = 0 from rfl) (rfl : (i 25 1).toInt = _) c_286
              refine lv_iload_n hx hb dX7_takeTurn_65 rfl (lv_at hl 0 rfl) ?_
              have hlv_288 : (0 : Int32).toInt = 0 := rfl
              have hz0 : (0 : Int32).toInt = 0 := rfl
              have hz1 : (1 : Int32).toInt = 1 := rfl
              have hz2 : (2 : Int32).toInt = 2 := rfl
              have hw_289 : ((up2 (up2 (up2 i 23 2 z_250) 23 2 0) 23 2 1) 23 1).toInt = ((i 23 1) : Int32).toInt := congrArg Int32.toInt (((up2_k _ _ (by decide)).trans ((up2_k _ _ (by decide)).trans (up2_k _ _ (by decide)))))
              have hw_290 : ((up2 (up2 (up2 i 23 2 z_250) 23 2 0) 23 2 1) 23 2).toInt = (1 : Int32).toInt := congrArg Int32.toInt ((up2_at _ _ _ _))
              have hw_291 : ((up2 (up2 (up2 i 23 2 z_250) 23 2 0) 23 2 1) 23 4).toInt = ((i 23 4) : Int32).toInt := congrArg Int32.toInt (((up2_k _ _ (by decide)).trans ((up2_k _ _ (by decide)).trans (up2_k _ _ (by decide)))))
              have hw_292 : ((up2 (up2 (up2 i 23 2 z_250) 23 2 0) 23 2 1) 23 5).toInt = ((i 23 5) : Int32).toInt := congrArg Int32.toInt (((up2_k _ _ (by decide)).trans ((up2_k _ _ (by decide)).trans (up2_k _ _ (by decide)))))
              have hw_293 : ((up2 (up2 (up2 i 23 2 z_250) 23 2 0) 23 2 1) 23 6).toInt = ((i 23 6) : Int32).toInt := congrArg Int32.toInt (((up2_k _ _ (by decide)).trans ((up2_k _ _ (by decide)).trans (up2_k _ _ (by decide)))))
              have hw_294 : ((up2 (up2 (up2 i 23 2 z_250) 23 2 0) 23 2 1) 23 7).toInt = ((i 23 7) : Int32).toInt := congrArg Int32.toInt (((up2_k _ _ (by decide)).trans ((up2_k _ _ (by decide)).trans (up2_k _ _ (by decide)))))
              have hw_295 : ((up2 (up2 (up2 i 23 2 z_250) 23 2 0) 23 2 1) 23 8).toInt = ((i 23 8) : Int32).toInt := congrArg Int32.toInt (((up2_k _ _ (by decide)).trans ((up2_k _ _ (by decide)).trans (up2_k _ _ (by decide)))))
              have hw_296 : ((up2 (up2 (up2 i 23 2 z_250) 23 2 0) 23 2 1) 23 10).toInt = ((i 23 10) : Int32).toInt := congrArg Int32.toInt (((up2_k _ _ (by decide)).trans ((up2_k _ _ (by decide)).trans (up2_k _ _ (by decide)))))
              exact sj_zret hx hb hr hlocks rfl hS (up2 (up2 (up2 i 23 2 z_250) 23 2 0) 23 2 1) ⟨hO_284, (fun a ha => ((up2_n _ _ (by omega)).trans ((up2_n _ _ (by omega)).trans (up2_n _ _ (by omega))))), ⟨by decide, by decide⟩, (by refine ⟨?_, ?_, ?_, ?_, ?_, ?_, ?_, ?_, ?_, ?_⟩ <;> omega)⟩ hH (sj_Knil hK) (Nat.le_of_ble_eq_true rfl) (Nat.le_of_ble_eq_true rfl) dX7_takeTurn_66
            · skip
              have h_297 := s_nle (show (0 : Int32).toInt = 0 from rfl) (rfl : (i 25 1).toInt = _) c_286
              refine lv_aload_n hx hb dX7_takeTurn_54 rfl (lv_at hl 2 rfl) ?_
              refine h_geti (ci := 7) (C := RX7) (F := TX7) (N := 11) hx hb hts in7 hown hK hH (by decide) (rfl : kd 23 = 7) (by decide) rfl 5 (by decide) wd4 (fun _ h9 => h9) (by decide) rfl dX7_takeTurn_55 ?_
              refine sj_i (y := (i 23 5)) ((up2_k _ _ (by decide)).trans ((up2_k _ _ (by decide)).trans (up2_k _ _ (by decide)))) ?_
              refine lv_aload_n hx hb dX7_takeTurn_58 rfl (lv_at hl 2 rfl) ?_
              refine h_geti (ci := 7) (C := RX7) (F := TX7) (N := 11) hx hb hts in7 hown hK hH (by decide) (rfl : kd 23 = 7) (by decide) rfl 4 (by decide) wd5 (fun _ h9 => h9) (by decide) rfl dX7_takeTurn_59 ?_
              refine sj_i (y := (i 23 4)) ((up2_k _ _ (by decide)).trans ((up2_k _ _ (by decide)).trans (up2_k _ _ (by decide)))) ?_
              refine lv_icmp_ge (tgt := 67) hx hb dX7_takeTurn_62 (by decide) (fun c_298 => ?_) (fun c_298 => ?_)
              · skip
                have h_299 := s_le (rfl : (i 23 4).toInt = _) (rfl : (i 23 5).toInt = _) c_298
                refine lv_iinc (v := 3) (lv' := [(1, .int 3), (2, .int 0), (0, .ref (g 23))]) hx hb dX7_takeTurn_67 hl (k := 1) rfl (by decide) (by decide) rfl (fun ls hl => ?_)
                refine lv_goto (tgt := 2) hx hb dX7_takeTurn_70 (by decide) ?_
                refine lv_iload_n hx hb dX7_takeTurn_2 rfl (lv_at hl 0 rfl) ?_
                refine lv_aload_n hx hb dX7_takeTurn_3 rfl (lv_at hl 2 rfl) ?_
                refine h_geti (ci := 7) (C := RX7) (F := TX7) (N := 11) hx hb hts in7 hown hK hH (by decide) (rfl : kd 23 = 7) (by decide) rfl 1 (by decide) wd0 (fun _ h9 => h9) (by decide) rfl dX7_takeTurn_4 ?_
                refine sj_i (y := (i 23 1)) ((up2_k _ _ (by decide)).trans ((up2_k _ _ (by decide)).trans (up2_k _ _ (by decide)))) ?_
                refine lv_icmp_ge (tgt := 73) hx hb dX7_takeTurn_7 (by decide) (fun _ => ?_) (fun h => absurd (p_le (rfl : (i 23 1).toInt = _) (show (3 : Int32).toInt = 3 from rfl) (by omega)) h)
                refine lv_aload_n hx hb dX7_takeTurn_73 rfl (lv_at hl 2 rfl) ?_
                refine h_geti (ci := 7) (C := RX7) (F := TX7) (N := 11) hx hb hts in7 hown hK hH (by decide) (rfl : kd 23 = 7) (by decide) rfl 2 (by decide) wd1 (fun _ h9 => h9) (by decide) rfl dX7_takeTurn_74 ?_
                refine sj_i (y := 1) (up2_at _ _ _ _) ?_
                have hlv_300 : (1 : Int32).toInt = 1 := rfl
                have hz0 : (0 : Int32).toInt = 0 := rfl
                have hz1 : (1 : Int32).toInt = 1 := rfl
                have hz2 : (2 : Int32).toInt = 2 := rfl
                have hw_301 : ((up2 (up2 (up2 i 23 2 z_250) 23 2 0) 23 2 1) 23 1).toInt = ((i 23 1) : Int32).toInt := congrArg Int32.toInt (((up2_k _ _ (by decide)).trans ((up2_k _ _ (by decide)).trans (up2_k _ _ (by decide)))))
                have hw_302 : ((up2 (up2 (up2 i 23 2 z_250) 23 2 0) 23 2 1) 23 2).toInt = (1 : Int32).toInt := congrArg Int32.toInt ((up2_at _ _ _ _))
                have hw_303 : ((up2 (up2 (up2 i 23 2 z_250) 23 2 0) 23 2 1) 23 4).toInt = ((i 23 4) : Int32).toInt := congrArg Int32.toInt (((up2_k _ _ (by decide)).trans ((up2_k _ _ (by decide)).trans (up2_k _ _ (by decide)))))
                have hw_304 : ((up2 (up2 (up2 i 23 2 z_250) 23 2 0) 23 2 1) 23 5).toInt = ((i 23 5) : Int32).toInt := congrArg Int32.toInt (((up2_k _ _ (by decide)).trans ((up2_k _ _ (by decide)).trans (up2_k _ _ (by decide)))))
                have hw_305 : ((up2 (up2 (up2 i 23 2 z_250) 23 2 0) 23 2 1) 23 6).toInt = ((i 23 6) : Int32).toInt := congrArg Int32.toInt (((up2_k _ _ (by decide)).trans ((up2_k _ _ (by decide)).trans (up2_k _ _ (by decide)))))
                have hw_306 : ((up2 (up2 (up2 i 23 2 z_250) 23 2 0) 23 2 1) 23 7).toInt = ((i 23 7) : Int32).toInt := congrArg Int32.toInt (((up2_k _ _ (by decide)).trans ((up2_k _ _ (by decide)).trans (up2_k _ _ (by decide)))))
                have hw_307 : ((up2 (up2 (up2 i 23 2 z_250) 23 2 0) 23 2 1) 23 8).toInt = ((i 23 8) : Int32).toInt := congrArg Int32.toInt (((up2_k _ _ (by decide)).trans ((up2_k _ _ (by decide)).trans (up2_k _ _ (by decide)))))
                have hw_308 : ((up2 (up2 (up2 i 23 2 z_250) 23 2 0) 23 2 1) 23 10).toInt = ((i 23 10) : Int32).toInt := congrArg Int32.toInt (((up2_k _ _ (by decide)).trans ((up2_k _ _ (by decide)).trans (up2_k _ _ (by decide)))))
                exact sj_zret hx hb hr hlocks rfl hS (up2 (up2 (up2 i 23 2 z_250) 23 2 0) 23 2 1) ⟨hO_284, (fun a ha => ((up2_n _ _ (by omega)).trans ((up2_n _ _ (by omega)).trans (up2_n _ _ (by omega))))), ⟨by decide, by decide⟩, (by refine ⟨?_, ?_, ?_, ?_, ?_, ?_, ?_, ?_, ?_, ?_⟩ <;> omega)⟩ hH (sj_Knil hK) (Nat.le_of_ble_eq_true rfl) (Nat.le_of_ble_eq_true rfl) dX7_takeTurn_77
              · skip
                have h_309 := s_nle (rfl : (i 23 4).toInt = _) (rfl : (i 23 5).toInt = _) c_298
                refine lv_iload_n hx hb dX7_takeTurn_65 rfl (lv_at hl 0 rfl) ?_
                have hlv_310 : (0 : Int32).toInt = 0 := rfl
                have hz0 : (0 : Int32).toInt = 0 := rfl
                have hz1 : (1 : Int32).toInt = 1 := rfl
                have hz2 : (2 : Int32).toInt = 2 := rfl
                have hw_311 : ((up2 (up2 (up2 i 23 2 z_250) 23 2 0) 23 2 1) 23 1).toInt = ((i 23 1) : Int32).toInt := congrArg Int32.toInt (((up2_k _ _ (by decide)).trans ((up2_k _ _ (by decide)).trans (up2_k _ _ (by decide)))))
                have hw_312 : ((up2 (up2 (up2 i 23 2 z_250) 23 2 0) 23 2 1) 23 2).toInt = (1 : Int32).toInt := congrArg Int32.toInt ((up2_at _ _ _ _))
                have hw_313 : ((up2 (up2 (up2 i 23 2 z_250) 23 2 0) 23 2 1) 23 4).toInt = ((i 23 4) : Int32).toInt := congrArg Int32.toInt (((up2_k _ _ (by decide)).trans ((up2_k _ _ (by decide)).trans (up2_k _ _ (by decide)))))
                have hw_314 : ((up2 (up2 (up2 i 23 2 z_250) 23 2 0) 23 2 1) 23 5).toInt = ((i 23 5) : Int32).toInt := congrArg Int32.toInt (((up2_k _ _ (by decide)).trans ((up2_k _ _ (by decide)).trans (up2_k _ _ (by decide)))))
                have hw_315 : ((up2 (up2 (up2 i 23 2 z_250) 23 2 0) 23 2 1) 23 6).toInt = ((i 23 6) : Int32).toInt := congrArg Int32.toInt (((up2_k _ _ (by decide)).trans ((up2_k _ _ (by decide)).trans (up2_k _ _ (by decide)))))
                have hw_316 : ((up2 (up2 (up2 i 23 2 z_250) 23 2 0) 23 2 1) 23 7).toInt = ((i 23 7) : Int32).toInt := congrArg Int32.toInt (((up2_k _ _ (by decide)).trans ((up2_k _ _ (by decide)).trans (up2_k _ _ (by decide)))))
                have hw_317 : ((up2 (up2 (up2 i 23 2 z_250) 23 2 0) 23 2 1) 23 8).toInt = ((i 23 8) : Int32).toInt := congrArg Int32.toInt (((up2_k _ _ (by decide)).trans ((up2_k _ _ (by decide)).trans (up2_k _ _ (by decide)))))
                have hw_318 : ((up2 (up2 (up2 i 23 2 z_250) 23 2 0) 23 2 1) 23 10).toInt = ((i 23 10) : Int32).toInt := congrArg Int32.toInt (((up2_k _ _ (by decide)).trans ((up2_k _ _ (by decide)).trans (up2_k _ _ (by decide)))))
                exact sj_zret hx hb hr hlocks rfl hS (up2 (up2 (up2 i 23 2 z_250) 23 2 0) 23 2 1) ⟨hO_284, (fun a ha => ((up2_n _ _ (by omega)).trans ((up2_n _ _ (by omega)).trans (up2_n _ _ (by omega))))), ⟨by decide, by decide⟩, (by refine ⟨?_, ?_, ?_, ?_, ?_, ?_, ?_, ?_, ?_, ?_⟩ <;> omega)⟩ hH (sj_Knil hK) (Nat.le_of_ble_eq_true rfl) (Nat.le_of_ble_eq_true rfl) dX7_takeTurn_66
          · skip
            have h_319 := s_nle (rfl : (i 23 4).toInt = _) (rfl : (i 23 5).toInt = _) c_282
            refine lv_iload_n hx hb dX7_takeTurn_65 rfl (lv_at hl 0 rfl) ?_
            have hz0 : (0 : Int32).toInt = 0 := rfl
            have hz1 : (1 : Int32).toInt = 1 := rfl
            have hz2 : (2 : Int32).toInt = 2 := rfl
            have hw_320 : ((up2 (up2 i 23 2 z_250) 23 2 0) 23 1).toInt = ((i 23 1) : Int32).toInt := congrArg Int32.toInt (((up2_k _ _ (by decide)).trans (up2_k _ _ (by decide))))
            have hw_321 : ((up2 (up2 i 23 2 z_250) 23 2 0) 23 2).toInt = (0 : Int32).toInt := congrArg Int32.toInt ((up2_at _ _ _ _))
            have hw_322 : ((up2 (up2 i 23 2 z_250) 23 2 0) 23 4).toInt = ((i 23 4) : Int32).toInt := congrArg Int32.toInt (((up2_k _ _ (by decide)).trans (up2_k _ _ (by decide))))
            have hw_323 : ((up2 (up2 i 23 2 z_250) 23 2 0) 23 5).toInt = ((i 23 5) : Int32).toInt := congrArg Int32.toInt (((up2_k _ _ (by decide)).trans (up2_k _ _ (by decide))))
            have hw_324 : ((up2 (up2 i 23 2 z_250) 23 2 0) 23 6).toInt = ((i 23 6) : Int32).toInt := congrArg Int32.toInt (((up2_k _ _ (by decide)).trans (up2_k _ _ (by decide))))
            have hw_325 : ((up2 (up2 i 23 2 z_250) 23 2 0) 23 7).toInt = ((i 23 7) : Int32).toInt := congrArg Int32.toInt (((up2_k _ _ (by decide)).trans (up2_k _ _ (by decide))))
            have hw_326 : ((up2 (up2 i 23 2 z_250) 23 2 0) 23 8).toInt = ((i 23 8) : Int32).toInt := congrArg Int32.toInt (((up2_k _ _ (by decide)).trans (up2_k _ _ (by decide))))
            have hw_327 : ((up2 (up2 i 23 2 z_250) 23 2 0) 23 10).toInt = ((i 23 10) : Int32).toInt := congrArg Int32.toInt (((up2_k _ _ (by decide)).trans (up2_k _ _ (by decide))))
            exact sj_zret hx hb hr hlocks rfl hS (up2 (up2 i 23 2 z_250) 23 2 0) ⟨hO_269, (fun a ha => ((up2_n _ _ (by omega)).trans (up2_n _ _ (by omega)))), ⟨by omega, by omega⟩, (by refine ⟨?_, ?_, ?_, ?_, ?_, ?_, ?_, ?_, ?_, ?_⟩ <;> omega)⟩ hH (sj_Knil hK) (Nat.le_of_ble_eq_true rfl) (Nat.le_of_ble_eq_true rfl) dX7_takeTurn_66
      · skip
        have h_328 := s_nle (rfl : (i 23 4).toInt = _) (rfl : (i 23 5).toInt = _) c_266
        refine lv_iload_n hx hb dX7_takeTurn_65 rfl (lv_at hl 0 rfl) ?_
        have hz0 : (0 : Int32).toInt = 0 := rfl
        have hz1 : (1 : Int32).toInt = 1 := rfl
        have hz2 : (2 : Int32).toInt = 2 := rfl
        have hw_329 : ((up2 i 23 2 z_250) 23 1).toInt = ((i 23 1) : Int32).toInt := congrArg Int32.toInt ((up2_k _ _ (by decide)))
        have hw_330 : ((up2 i 23 2 z_250) 23 2).toInt = (z_250 : Int32).toInt := congrArg Int32.toInt ((up2_at _ _ _ _))
        have hw_331 : ((up2 i 23 2 z_250) 23 4).toInt = ((i 23 4) : Int32).toInt := congrArg Int32.toInt ((up2_k _ _ (by decide)))
        have hw_332 : ((up2 i 23 2 z_250) 23 5).toInt = ((i 23 5) : Int32).toInt := congrArg Int32.toInt ((up2_k _ _ (by decide)))
        have hw_333 : ((up2 i 23 2 z_250) 23 6).toInt = ((i 23 6) : Int32).toInt := congrArg Int32.toInt ((up2_k _ _ (by decide)))
        have hw_334 : ((up2 i 23 2 z_250) 23 7).toInt = ((i 23 7) : Int32).toInt := congrArg Int32.toInt ((up2_k _ _ (by decide)))
        have hw_335 : ((up2 i 23 2 z_250) 23 8).toInt = ((i 23 8) : Int32).toInt := congrArg Int32.toInt ((up2_k _ _ (by decide)))
        have hw_336 : ((up2 i 23 2 z_250) 23 10).toInt = ((i 23 10) : Int32).toInt := congrArg Int32.toInt ((up2_k _ _ (by decide)))
        exact sj_zret hx hb hr hlocks rfl hS (up2 i 23 2 z_250) ⟨hO_251, (fun a ha => (up2_n _ _ (by omega))), ⟨by omega, by omega⟩, (by refine ⟨?_, ?_, ?_, ?_, ?_, ?_, ?_, ?_, ?_, ?_⟩ <;> omega)⟩ hH (sj_Knil hK) (Nat.le_of_ble_eq_true rfl) (Nat.le_of_ble_eq_true rfl) dX7_takeTurn_66
  · skip
    refine lv_iconst (v := 0) hx hb dX7_takeTurn_0 (by decide) ?_
    refine lv_istore_n (lv' := [(1, .int 0), (0, .ref (g 23))]) hx hb dX7_takeTurn_1 rfl hl (by decide) rfl (fun ls hl => ?_)
    refine lv_iload_n hx hb dX7_takeTurn_2 rfl (lv_at hl 0 rfl) ?_
    refine lv_aload_n hx hb dX7_takeTurn_3 rfl (lv_at hl 1 rfl) ?_
    refine h_geti (ci := 7) (C := RX7) (F := TX7) (N := 11) hx hb hts in7 hown hK hH (by decide) (rfl : kd 23 = 7) (by decide) rfl 1 (by decide) wd0 (fun _ h9 => h9) (by decide) rfl dX7_takeTurn_4 ?_
    refine lv_icmp_ge (tgt := 73) hx hb dX7_takeTurn_7 (by decide) (fun h => absurd h (p_nle (rfl : (i 23 1).toInt = _) (show (0 : Int32).toInt = 0 from rfl) (by omega))) (fun _ => ?_)
    refine lv_aload_n hx hb dX7_takeTurn_10 rfl (lv_at hl 1 rfl) ?_
    refine h_geti (ci := 7) (C := RX7) (F := TX7) (N := 11) hx hb hts in7 hown hK hH (by decide) (rfl : kd 23 = 7) (by decide) rfl 2 (by decide) wd1 (fun _ h9 => h9) (by decide) rfl dX7_takeTurn_11 ?_
    refine lv_istore_n (lv' := [(2, .int (i 23 2)), (1, .int 0), (0, .ref (g 23))]) hx hb dX7_takeTurn_14 rfl hl (by decide) rfl (fun ls hl => ?_)
    refine lv_aload_n hx hb dX7_takeTurn_15 rfl (lv_at hl 2 rfl) ?_
    refine lv_aload_n hx hb dX7_takeTurn_16 rfl (lv_at hl 2 rfl) ?_
    refine h_geti (ci := 7) (C := RX7) (F := TX7) (N := 11) hx hb hts in7 hown hK hH (by decide) (rfl : kd 23 = 7) (by decide) rfl 2 (by decide) wd1 (fun _ h9 => h9) (by decide) rfl dX7_takeTurn_17 ?_
    refine lv_iconst (v := 1) hx hb dX7_takeTurn_20 (by decide) ?_
    refine lv_iadd hx hb dX7_takeTurn_21 ?_
    obtain ⟨z_337, ez_337, hz_337⟩ := s_add (rfl : (i 23 2).toInt = _) (show (1 : Int32).toInt = 1 from rfl) (by omega) (by omega)
    refine sj_i ez_337 ?_
    refine lv_aload_n hx hb dX7_takeTurn_22 rfl (lv_at hl 2 rfl) ?_
    refine h_geti (ci := 7) (C := RX7) (F := TX7) (N := 11) hx hb hts in7 hown hK hH (by decide) (rfl : kd 23 = 7) (by decide) rfl 1 (by decide) wd0 (fun _ h9 => h9) (by decide) rfl dX7_takeTurn_23 ?_
    refine lv_icmp_ge (tgt := 38) hx hb dX7_takeTurn_26 (by decide) (fun _ => ?_) (fun h => absurd (p_le (rfl : (i 23 1).toInt = _) (rfl : z_337.toInt = _) (by omega)) h)
    refine lv_iconst (v := 0) hx hb dX7_takeTurn_38 (by decide) ?_
    have hO_338 := okp hO (n := 23) (k := 2) (v := 0) (show (0 : Int) ≤ (0 : Int32).toInt ∧ (0 : Int32).toInt ≤ 2 from ⟨by decide, by decide⟩)
    refine h_puti (ty := .int) (ci := 7) (C := RX7) (F := TX7) (N := 11) hx hb hts in7 tyX7 tyX7_ok nmX7 hown hK hH hS (by decide) (rfl : kd 23 = 7) (by decide) rfl 2 (by decide) wd1 (fun _ h9 => h9) rfl (by decide +kernel) rfl rfl (by decide) rfl dX7_takeTurn_39 (fun H locs hH hS => ?_)
    refine lv_aload_n hx hb dX7_takeTurn_42 rfl (lv_at hl 2 rfl) ?_
    refine h_getr (ci := 7) (C := RX7) (F := TX7) (N := 11) hx hb hts in7 hown hK hH (by decide) (rfl : kd 23 = 7) (by decide) rfl 0 (by decide) wd2 (fun _ h9 => h9) (by decide) rfl (t := 24) (hR 23 0 rfl) (by decide) dX7_takeTurn_43 ?_
    refine lv_iload_n hx hb dX7_takeTurn_46 rfl (lv_at hl 0 rfl) ?_
    refine h_qald hx hb hK hH (by decide) (rfl : kd 24 = 28) (by decide) rfl (s_vin (N := 3) (rfl : (i 23 2).toInt = _) (rfl : ln 24 = 3) (by omega) (by omega)) (t := 27) (by rw [show ((i 23 2)).toNatClampNeg = 2 by rw [s_cl (rfl : (i 23 2).toInt = _)]; omega]; exact (hR 24 2 rfl)) (by decide) dX7_takeTurn_47 ?_
    have bx_339 : (-1 : Int) ≤ (i 27 1).toInt ∧ (i 27 1).toInt ≤ 23 := hO 27 1
    refine h_geti (ci := 10) (C := RX10) (F := TX10) (N := 8) hx hb hts in10 hown hK hH (by decide) (rfl : kd 27 = 10) (by decide) rfl 1 (by decide) wd3 (fun _ h9 => h9) (by decide) rfl dX7_takeTurn_48 ?_
    refine sj_i (y := (i 27 1)) (congrFun (up2_n _ _ (by decide)) _) ?_
    refine lv_if_ge (tgt := 65) hx hb dX7_takeTurn_51 (by decide) (fun c_340 => ?_) (fun c_340 => ?_)
    · skip
      have h_341 := s_le (show (0 : Int32).toInt = 0 from rfl) (rfl : (i 27 1).toInt = _) c_340
      refine lv_iload_n hx hb dX7_takeTurn_65 rfl (lv_at hl 0 rfl) ?_
      have hz0 : (0 : Int32).toInt = 0 := rfl
      have hz1 : (1 : Int32).toInt = 1 := rfl
      have hz2 : (2 : Int32).toInt = 2 := rfl
      have hw_342 : ((up2 i 23 2 0) 23 1).toInt = ((i 23 1) : Int32).toInt := congrArg Int32.toInt ((up2_k _ _ (by decide)))
      have hw_343 : ((up2 i 23 2 0) 23 2).toInt = (0 : Int32).toInt := congrArg Int32.toInt ((up2_at _ _ _ _))
      have hw_344 : ((up2 i 23 2 0) 23 4).toInt = ((i 23 4) : Int32).toInt := congrArg Int32.toInt ((up2_k _ _ (by decide)))
      have hw_345 : ((up2 i 23 2 0) 23 5).toInt = ((i 23 5) : Int32).toInt := congrArg Int32.toInt ((up2_k _ _ (by decide)))
      have hw_346 : ((up2 i 23 2 0) 23 6).toInt = ((i 23 6) : Int32).toInt := congrArg Int32.toInt ((up2_k _ _ (by decide)))
      have hw_347 : ((up2 i 23 2 0) 23 7).toInt = ((i 23 7) : Int32).toInt := congrArg Int32.toInt ((up2_k _ _ (by decide)))
      have hw_348 : ((up2 i 23 2 0) 23 8).toInt = ((i 23 8) : Int32).toInt := congrArg Int32.toInt ((up2_k _ _ (by decide)))
      have hw_349 : ((up2 i 23 2 0) 23 10).toInt = ((i 23 10) : Int32).toInt := congrArg Int32.toInt ((up2_k _ _ (by decide)))
      exact sj_zret hx hb hr hlocks rfl hS (up2 i 23 2 0) ⟨hO_338, (fun a ha => (up2_n _ _ (by omega))), ⟨by omega, by omega⟩, (by refine ⟨?_, ?_, ?_, ?_, ?_, ?_, ?_, ?_, ?_, ?_⟩ <;> omega)⟩ hH (sj_Knil hK) (Nat.le_of_ble_eq_true rfl) (Nat.le_of_ble_eq_true rfl) dX7_takeTurn_66
    · skip
      have h_350 := s_nle (show (0 : Int32).toInt = 0 from rfl) (rfl : (i 27 1).toInt = _) c_340
      refine lv_aload_n hx hb dX7_takeTurn_54 rfl (lv_at hl 2 rfl) ?_
      have bx_351 : (0 : Int) ≤ (i 23 5).toInt ∧ (i 23 5).toInt ≤ 24 := hO 23 5
      refine h_geti (ci := 7) (C := RX7) (F := TX7) (N := 11) hx hb hts in7 hown hK hH (by decide) (rfl : kd 23 = 7) (by decide) rfl 5 (by decide) wd4 (fun _ h9 => h9) (by decide) rfl dX7_takeTurn_55 ?_
      refine sj_i (y := (i 23 5)) (up2_k _ _ (by decide)) ?_
      refine lv_aload_n hx hb dX7_takeTurn_58 rfl (lv_at hl 2 rfl) ?_
      have bx_352 : (0 : Int) ≤ (i 23 4).toInt ∧ (i 23 4).toInt ≤ 24 := hO 23 4
      refine h_geti (ci := 7) (C := RX7) (F := TX7) (N := 11) hx hb hts in7 hown hK hH (by decide) (rfl : kd 23 = 7) (by decide) rfl 4 (by decide) wd5 (fun _ h9 => h9) (by decide) rfl dX7_takeTurn_59 ?_
      refine sj_i (y := (i 23 4)) (up2_k _ _ (by decide)) ?_
      refine lv_icmp_ge (tgt := 67) hx hb dX7_takeTurn_62 (by decide) (fun c_353 => ?_) (fun c_353 => ?_)
      · skip
        have h_354 := s_le (rfl : (i 23 4).toInt = _) (rfl : (i 23 5).toInt = _) c_353
        refine lv_iinc (v := 1) (lv' := [(1, .int 1), (2, .int (i 23 2)), (0, .ref (g 23))]) hx hb dX7_takeTurn_67 hl (k := 1) rfl (by decide) (by decide) rfl (fun ls hl => ?_)
        refine lv_goto (tgt := 2) hx hb dX7_takeTurn_70 (by decide) ?_
        refine lv_iload_n hx hb dX7_takeTurn_2 rfl (lv_at hl 0 rfl) ?_
        refine lv_aload_n hx hb dX7_takeTurn_3 rfl (lv_at hl 2 rfl) ?_
        refine h_geti (ci := 7) (C := RX7) (F := TX7) (N := 11) hx hb hts in7 hown hK hH (by decide) (rfl : kd 23 = 7) (by decide) rfl 1 (by decide) wd0 (fun _ h9 => h9) (by decide) rfl dX7_takeTurn_4 ?_
        refine sj_i (y := (i 23 1)) (up2_k _ _ (by decide)) ?_
        refine lv_icmp_ge (tgt := 73) hx hb dX7_takeTurn_7 (by decide) (fun h => absurd h (p_nle (rfl : (i 23 1).toInt = _) (show (1 : Int32).toInt = 1 from rfl) (by omega))) (fun _ => ?_)
        refine lv_aload_n hx hb dX7_takeTurn_10 rfl (lv_at hl 2 rfl) ?_
        refine h_geti (ci := 7) (C := RX7) (F := TX7) (N := 11) hx hb hts in7 hown hK hH (by decide) (rfl : kd 23 = 7) (by decide) rfl 2 (by decide) wd1 (fun _ h9 => h9) (by decide) rfl dX7_takeTurn_11 ?_
        refine sj_i (y := 0) (up2_at _ _ _ _) ?_
        refine lv_istore_n (lv' := [(2, .int 0), (1, .int 1), (0, .ref (g 23))]) hx hb dX7_takeTurn_14 rfl hl (by decide) rfl (fun ls hl => ?_)
        refine lv_aload_n hx hb dX7_takeTurn_15 rfl (lv_at hl 2 rfl) ?_
        refine lv_aload_n hx hb dX7_takeTurn_16 rfl (lv_at hl 2 rfl) ?_
        refine h_geti (ci := 7) (C := RX7) (F := TX7) (N := 11) hx hb hts in7 hown hK hH (by decide) (rfl : kd 23 = 7) (by decide) rfl 2 (by decide) wd1 (fun _ h9 => h9) (by decide) rfl dX7_takeTurn_17 ?_
        refine sj_i (y := 0) (up2_at _ _ _ _) ?_
        refine lv_iconst (v := 1) hx hb dX7_takeTurn_20 (by decide) ?_
        refine lv_iadd hx hb dX7_takeTurn_21 ?_
        refine sj_i (y := 1) (by decide) ?_
        refine lv_aload_n hx hb dX7_takeTurn_22 rfl (lv_at hl 2 rfl) ?_
        refine h_geti (ci := 7) (C := RX7) (F := TX7) (N := 11) hx hb hts in7 hown hK hH (by decide) (rfl : kd 23 = 7) (by decide) rfl 1 (by decide) wd0 (fun _ h9 => h9) (by decide) rfl dX7_takeTurn_23 ?_
        refine sj_i (y := (i 23 1)) (up2_k _ _ (by decide)) ?_
        refine lv_icmp_ge (tgt := 38) hx hb dX7_takeTurn_26 (by decide) (fun h => absurd h (p_nle (rfl : (i 23 1).toInt = _) (show (1 : Int32).toInt = 1 from rfl) (by omega))) (fun _ => ?_)
        refine lv_aload_n hx hb dX7_takeTurn_29 rfl (lv_at hl 2 rfl) ?_
        refine h_geti (ci := 7) (C := RX7) (F := TX7) (N := 11) hx hb hts in7 hown hK hH (by decide) (rfl : kd 23 = 7) (by decide) rfl 2 (by decide) wd1 (fun _ h9 => h9) (by decide) rfl dX7_takeTurn_30 ?_
        refine sj_i (y := 0) (up2_at _ _ _ _) ?_
        refine lv_iconst (v := 1) hx hb dX7_takeTurn_33 (by decide) ?_
        refine lv_iadd hx hb dX7_takeTurn_34 ?_
        refine sj_i (y := 1) (by decide) ?_
        refine lv_goto (tgt := 39) hx hb dX7_takeTurn_35 (by decide) ?_
        have hO_355 := okp hO_338 (n := 23) (k := 2) (v := 1) (show (0 : Int) ≤ (1 : Int32).toInt ∧ (1 : Int32).toInt ≤ 2 from ⟨by decide, by decide⟩)
        refine h_puti (ty := .int) (ci := 7) (C := RX7) (F := TX7) (N := 11) hx hb hts in7 tyX7 tyX7_ok nmX7 hown hK hH hS (by decide) (rfl : kd 23 = 7) (by decide) rfl 2 (by decide) wd1 (fun _ h9 => h9) rfl (by decide +kernel) rfl rfl (by decide) rfl dX7_takeTurn_39 (fun H locs hH hS => ?_)
        refine lv_aload_n hx hb dX7_takeTurn_42 rfl (lv_at hl 2 rfl) ?_
        refine h_getr (ci := 7) (C := RX7) (F := TX7) (N := 11) hx hb hts in7 hown hK hH (by decide) (rfl : kd 23 = 7) (by decide) rfl 0 (by decide) wd2 (fun _ h9 => h9) (by decide) rfl (t := 24) (hR 23 0 rfl) (by decide) dX7_takeTurn_43 ?_
        refine lv_iload_n hx hb dX7_takeTurn_46 rfl (lv_at hl 0 rfl) ?_
        refine h_qald hx hb hK hH (by decide) (rfl : kd 24 = 28) (by decide) rfl (s_vin (N := 3) (show (0 : Int32).toInt = 0 from rfl) (rfl : ln 24 = 3) (by omega) (by omega)) (t := 25) (hR 24 0 rfl) (by decide) dX7_takeTurn_47 ?_
        have bx_356 : (-1 : Int) ≤ (i 25 1).toInt ∧ (i 25 1).toInt ≤ 23 := hO 25 1
        refine h_geti (ci := 10) (C := RX10) (F := TX10) (N := 8) hx hb hts in10 hown hK hH (by decide) (rfl : kd 25 = 10) (by decide) rfl 1 (by decide) wd3 (fun _ h9 => h9) (by decide) rfl dX7_takeTurn_48 ?_
        refine sj_i (y := (i 25 1)) ((congrFun (up2_n _ _ (by decide)) _).trans (congrFun (up2_n _ _ (by decide)) _)) ?_
        refine lv_if_ge (tgt := 65) hx hb dX7_takeTurn_51 (by decide) (fun c_357 => ?_) (fun c_357 => ?_)
        · skip
          have h_358 := s_le (show (0 : Int32).toInt = 0 from rfl) (rfl : (i 25 1).toInt = _) c_357
          refine lv_iload_n hx hb dX7_takeTurn_65 rfl (lv_at hl 0 rfl) ?_
          have hlv_359 : (0 : Int32).toInt = 0 := rfl
          have hz0 : (0 : Int32).toInt = 0 := rfl
          have hz1 : (1 : Int32).toInt = 1 := rfl
          have hz2 : (2 : Int32).toInt = 2 := rfl
          have hw_360 : ((up2 (up2 i 23 2 0) 23 2 1) 23 1).toInt = ((i 23 1) : Int32).toInt := congrArg Int32.toInt (((up2_k _ _ (by decide)).trans (up2_k _ _ (by decide))))
          have hw_361 : ((up2 (up2 i 23 2 0) 23 2 1) 23 2).toInt = (1 : Int32).toInt := congrArg Int32.toInt ((up2_at _ _ _ _))
          have hw_362 : ((up2 (up2 i 23 2 0) 23 2 1) 23 4).toInt = ((i 23 4) : Int32).toInt := congrArg Int32.toInt (((up2_k _ _ (by decide)).trans (up2_k _ _ (by decide))))
          have hw_363 : ((up2 (up2 i 23 2 0) 23 2 1) 23 5).toInt = ((i 23 5) : Int32).toInt := congrArg Int32.toInt (((up2_k _ _ (by decide)).trans (up2_k _ _ (by decide))))
          have hw_364 : ((up2 (up2 i 23 2 0) 23 2 1) 23 6).toInt = ((i 23 6) : Int32).toInt := congrArg Int32.toInt (((up2_k _ _ (by decide)).trans (up2_k _ _ (by decide))))
          have hw_365 : ((up2 (up2 i 23 2 0) 23 2 1) 23 7).toInt = ((i 23 7) : Int32).toInt := congrArg Int32.toInt (((up2_k _ _ (by decide)).trans (up2_k _ _ (by decide))))
          have hw_366 : ((up2 (up2 i 23 2 0) 23 2 1) 23 8).toInt = ((i 23 8) : Int32).toInt := congrArg Int32.toInt (((up2_k _ _ (by decide)).trans (up2_k _ _ (by decide))))
          have hw_367 : ((up2 (up2 i 23 2 0) 23 2 1) 23 10).toInt = ((i 23 10) : Int32).toInt := congrArg Int32.toInt (((up2_k _ _ (by decide)).trans (up2_k _ _ (by decide))))
          exact sj_zret hx hb hr hlocks rfl hS (up2 (up2 i 23 2 0) 23 2 1) ⟨hO_355, (fun a ha => ((up2_n _ _ (by omega)).trans (up2_n _ _ (by omega)))), ⟨by decide, by decide⟩, (by refine ⟨?_, ?_, ?_, ?_, ?_, ?_, ?_, ?_, ?_, ?_⟩ <;> omega)⟩ hH (sj_Knil hK) (Nat.le_of_ble_eq_true rfl) (Nat.le_of_ble_eq_true rfl) dX7_takeTurn_66
        · skip
          have h_368 := s_nle (show (0 : Int32).toInt = 0 from rfl) (rfl : (i 25 1).toInt = _) c_357
          refine lv_aload_n hx hb dX7_takeTurn_54 rfl (lv_at hl 2 rfl) ?_
          refine h_geti (ci := 7) (C := RX7) (F := TX7) (N := 11) hx hb hts in7 hown hK hH (by decide) (rfl : kd 23 = 7) (by decide) rfl 5 (by decide) wd4 (fun _ h9 => h9) (by decide) rfl dX7_takeTurn_55 ?_
          refine sj_i (y := (i 23 5)) ((up2_k _ _ (by decide)).trans (up2_k _ _ (by decide))) ?_
          refine lv_aload_n hx hb dX7_takeTurn_58 rfl (lv_at hl 2 rfl) ?_
          refine h_geti (ci := 7) (C := RX7) (F := TX7) (N := 11) hx hb hts in7 hown hK hH (by decide) (rfl : kd 23 = 7) (by decide) rfl 4 (by decide) wd5 (fun _ h9 => h9) (by decide) rfl dX7_takeTurn_59 ?_
          refine sj_i (y := (i 23 4)) ((up2_k _ _ (by decide)).trans (up2_k _ _ (by decide))) ?_
          refine lv_icmp_ge (tgt := 67) hx hb dX7_takeTurn_62 (by decide) (fun c_369 => ?_) (fun c_369 => ?_)
          · skip
            have h_370 := s_le (rfl : (i 23 4).toInt = _) (rfl : (i 23 5).toInt = _) c_369
            refine lv_iinc (v := 2) (lv' := [(1, .int 2), (2, .int 0), (0, .ref (g 23))]) hx hb dX7_takeTurn_67 hl (k := 1) rfl (by decide) (by decide) rfl (fun ls hl => ?_)
            refine lv_goto (tgt := 2) hx hb dX7_takeTurn_70 (by decide) ?_
            refine lv_iload_n hx hb dX7_takeTurn_2 rfl (lv_at hl 0 rfl) ?_
            refine lv_aload_n hx hb dX7_takeTurn_3 rfl (lv_at hl 2 rfl) ?_
            refine h_geti (ci := 7) (C := RX7) (F := TX7) (N := 11) hx hb hts in7 hown hK hH (by decide) (rfl : kd 23 = 7) (by decide) rfl 1 (by decide) wd0 (fun _ h9 => h9) (by decide) rfl dX7_takeTurn_4 ?_
            refine sj_i (y := (i 23 1)) ((up2_k _ _ (by decide)).trans (up2_k _ _ (by decide))) ?_
            refine lv_icmp_ge (tgt := 73) hx hb dX7_takeTurn_7 (by decide) (fun h => absurd h (p_nle (rfl : (i 23 1).toInt = _) (show (2 : Int32).toInt = 2 from rfl) (by omega))) (fun _ => ?_)
            refine lv_aload_n hx hb dX7_takeTurn_10 rfl (lv_at hl 2 rfl) ?_
            refine h_geti (ci := 7) (C := RX7) (F := TX7) (N := 11) hx hb hts in7 hown hK hH (by decide) (rfl : kd 23 = 7) (by decide) rfl 2 (by decide) wd1 (fun _ h9 => h9) (by decide) rfl dX7_takeTurn_11 ?_
            refine sj_i (y := 1) (up2_at _ _ _ _) ?_
            refine lv_istore_n (lv' := [(2, .int 1), (1, .int 2), (0, .ref (g 23))]) hx hb dX7_takeTurn_14 rfl hl (by decide) rfl (fun ls hl => ?_)
            refine lv_aload_n hx hb dX7_takeTurn_15 rfl (lv_at hl 2 rfl) ?_
            refine lv_aload_n hx hb dX7_takeTurn_16 rfl (lv_at hl 2 rfl) ?_
            refine h_geti (ci := 7) (C := RX7) (F := TX7) (N := 11) hx hb hts in7 hown hK hH (by decide) (rfl : kd 23 = 7) (by decide) rfl 2 (by decide) wd1 (fun _ h9 => h9) (by decide) rfl dX7_takeTurn_17 ?_
            refine sj_i (y := 1) (up2_at _ _ _ _) ?_
            refine lv_iconst (v := 1) hx hb dX7_takeTurn_20 (by decide) ?_
            refine lv_iadd hx hb dX7_takeTurn_21 ?_
            refine sj_i (y := 2) (by decide) ?_
            refine lv_aload_n hx hb dX7_takeTurn_22 rfl (lv_at hl 2 rfl) ?_
            refine h_geti (ci := 7) (C := RX7) (F := TX7) (N := 11) hx hb hts in7 hown hK hH (by decide) (rfl : kd 23 = 7) (by decide) rfl 1 (by decide) wd0 (fun _ h9 => h9) (by decide) rfl dX7_takeTurn_23 ?_
            refine sj_i (y := (i 23 1)) ((up2_k _ _ (by decide)).trans (up2_k _ _ (by decide))) ?_
            refine lv_icmp_ge (tgt := 38) hx hb dX7_takeTurn_26 (by decide) (fun h => absurd h (p_nle (rfl : (i 23 1).toInt = _) (show (2 : Int32).toInt = 2 from rfl) (by omega))) (fun _ => ?_)
            refine lv_aload_n hx hb dX7_takeTurn_29 rfl (lv_at hl 2 rfl) ?_
            refine h_geti (ci := 7) (C := RX7) (F := TX7) (N := 11) hx hb hts in7 hown hK hH (by decide) (rfl : kd 23 = 7) (by decide) rfl 2 (by decide) wd1 (fun _ h9 => h9) (by decide) rfl dX7_takeTurn_30 ?_
            refine sj_i (y := 1) (up2_at _ _ _ _) ?_
            refine lv_iconst (v := 1) hx hb dX7_takeTurn_33 (by decide) ?_
            refine lv_iadd hx hb dX7_takeTurn_34 ?_
            refine sj_i (y := 2) (by decide) ?_
            refine lv_goto (tgt := 39) hx hb dX7_takeTurn_35 (by decide) ?_
            have hO_371 := okp hO_355 (n := 23) (k := 2) (v := 2) (show (0 : Int) ≤ (2 : Int32).toInt ∧ (2 : Int32).toInt ≤ 2 from ⟨by decide, by decide⟩)
            refine h_puti (ty := .int) (ci := 7) (C := RX7) (F := TX7) (N := 11) hx hb hts in7 tyX7 tyX7_ok nmX7 hown hK hH hS (by decide) (rfl : kd 23 = 7) (by decide) rfl 2 (by decide) wd1 (fun _ h9 => h9) rfl (by decide +kernel) rfl rfl (by decide) rfl dX7_takeTurn_39 (fun H locs hH hS => ?_)
            refine lv_aload_n hx hb dX7_takeTurn_42 rfl (lv_at hl 2 rfl) ?_
            refine h_getr (ci := 7) (C := RX7) (F := TX7) (N := 11) hx hb hts in7 hown hK hH (by decide) (rfl : kd 23 = 7) (by decide) rfl 0 (by decide) wd2 (fun _ h9 => h9) (by decide) rfl (t := 24) (hR 23 0 rfl) (by decide) dX7_takeTurn_43 ?_
            refine lv_iload_n hx hb dX7_takeTurn_46 rfl (lv_at hl 0 rfl) ?_
            refine h_qald hx hb hK hH (by decide) (rfl : kd 24 = 28) (by decide) rfl (s_vin (N := 3) (show (1 : Int32).toInt = 1 from rfl) (rfl : ln 24 = 3) (by omega) (by omega)) (t := 26) (hR 24 1 rfl) (by decide) dX7_takeTurn_47 ?_
            have bx_372 : (-1 : Int) ≤ (i 26 1).toInt ∧ (i 26 1).toInt ≤ 23 := hO 26 1
            refine h_geti (ci := 10) (C := RX10) (F := TX10) (N := 8) hx hb hts in10 hown hK hH (by decide) (rfl : kd 26 = 10) (by decide) rfl 1 (by decide) wd3 (fun _ h9 => h9) (by decide) rfl dX7_takeTurn_48 ?_
            refine sj_i (y := (i 26 1)) ((congrFun (up2_n _ _ (by decide)) _).trans ((congrFun (up2_n _ _ (by decide)) _).trans (congrFun (up2_n _ _ (by decide)) _))) ?_
            refine lv_if_ge (tgt := 65) hx hb dX7_takeTurn_51 (by decide) (fun c_373 => ?_) (fun c_373 => ?_)
            · skip
              have h_374 := s_le (show (0 : Int32).toInt = 0 from rfl) (rfl : (i 26 1).toInt = _) c_373
              refine lv_iload_n hx hb dX7_takeTurn_65 rfl (lv_at hl 0 rfl) ?_
              have hlv_375 : (1 : Int32).toInt = 1 := rfl
              have hz0 : (0 : Int32).toInt = 0 := rfl
              have hz1 : (1 : Int32).toInt = 1 := rfl
              have hz2 : (2 : Int32).toInt = 2 := rfl
              have hw_376 : ((up2 (up2 (up2 i 23 2 0) 23 2 1) 23 2 2) 23 1).toInt = ((i 23 1) : Int32).toInt := congrArg Int32.toInt (((up2_k _ _ (by decide)).trans ((up2_k _ _ (by decide)).trans (up2_k _ _ (by decide)))))
              have hw_377 : ((up2 (up2 (up2 i 23 2 0) 23 2 1) 23 2 2) 23 2).toInt = (2 : Int32).toInt := congrArg Int32.toInt ((up2_at _ _ _ _))
              have hw_378 : ((up2 (up2 (up2 i 23 2 0) 23 2 1) 23 2 2) 23 4).toInt = ((i 23 4) : Int32).toInt := congrArg Int32.toInt (((up2_k _ _ (by decide)).trans ((up2_k _ _ (by decide)).trans (up2_k _ _ (by decide)))))
              have hw_379 : ((up2 (up2 (up2 i 23 2 0) 23 2 1) 23 2 2) 23 5).toInt = ((i 23 5) : Int32).toInt := congrArg Int32.toInt (((up2_k _ _ (by decide)).trans ((up2_k _ _ (by decide)).trans (up2_k _ _ (by decide)))))
              have hw_380 : ((up2 (up2 (up2 i 23 2 0) 23 2 1) 23 2 2) 23 6).toInt = ((i 23 6) : Int32).toInt := congrArg Int32.toInt (((up2_k _ _ (by decide)).trans ((up2_k _ _ (by decide)).trans (up2_k _ _ (by decide)))))
              have hw_381 : ((up2 (up2 (up2 i 23 2 0) 23 2 1) 23 2 2) 23 7).toInt = ((i 23 7) : Int32).toInt := congrArg Int32.toInt (((up2_k _ _ (by decide)).trans ((up2_k _ _ (by decide)).trans (up2_k _ _ (by decide)))))
              have hw_382 : ((up2 (up2 (up2 i 23 2 0) 23 2 1) 23 2 2) 23 8).toInt = ((i 23 8) : Int32).toInt := congrArg Int32.toInt (((up2_k _ _ (by decide)).trans ((up2_k _ _ (by decide)).trans (up2_k _ _ (by decide)))))
              have hw_383 : ((up2 (up2 (up2 i 23 2 0) 23 2 1) 23 2 2) 23 10).toInt = ((i 23 10) : Int32).toInt := congrArg Int32.toInt (((up2_k _ _ (by decide)).trans ((up2_k _ _ (by decide)).trans (up2_k _ _ (by decide)))))
              exact sj_zret hx hb hr hlocks rfl hS (up2 (up2 (up2 i 23 2 0) 23 2 1) 23 2 2) ⟨hO_371, (fun a ha => ((up2_n _ _ (by omega)).trans ((up2_n _ _ (by omega)).trans (up2_n _ _ (by omega))))), ⟨by decide, by decide⟩, (by refine ⟨?_, ?_, ?_, ?_, ?_, ?_, ?_, ?_, ?_, ?_⟩ <;> omega)⟩ hH (sj_Knil hK) (Nat.le_of_ble_eq_true rfl) (Nat.le_of_ble_eq_true rfl) dX7_takeTurn_66
            · skip
              have h_384 := s_nle (show (0 : Int32).toInt = 0 from rfl) (rfl : (i 26 1).toInt = _) c_373
              refine lv_aload_n hx hb dX7_takeTurn_54 rfl (lv_at hl 2 rfl) ?_
              refine h_geti (ci := 7) (C := RX7) (F := TX7) (N := 11) hx hb hts in7 hown hK hH (by decide) (rfl : kd 23 = 7) (by decide) rfl 5 (by decide) wd4 (fun _ h9 => h9) (by decide) rfl dX7_takeTurn_55 ?_
              refine sj_i (y := (i 23 5)) ((up2_k _ _ (by decide)).trans ((up2_k _ _ (by decide)).trans (up2_k _ _ (by decide)))) ?_
              refine lv_aload_n hx hb dX7_takeTurn_58 rfl (lv_at hl 2 rfl) ?_
              refine h_geti (ci := 7) (C := RX7) (F := TX7) (N := 11) hx hb hts in7 hown hK hH (by decide) (rfl : kd 23 = 7) (by decide) rfl 4 (by decide) wd5 (fun _ h9 => h9) (by decide) rfl dX7_takeTurn_59 ?_
              refine sj_i (y := (i 23 4)) ((up2_k _ _ (by decide)).trans ((up2_k _ _ (by decide)).trans (up2_k _ _ (by decide)))) ?_
              refine lv_icmp_ge (tgt := 67) hx hb dX7_takeTurn_62 (by decide) (fun c_385 => ?_) (fun c_385 => ?_)
              · skip
                have h_386 := s_le (rfl : (i 23 4).toInt = _) (rfl : (i 23 5).toInt = _) c_385
                refine lv_iinc (v := 3) (lv' := [(1, .int 3), (2, .int 1), (0, .ref (g 23))]) hx hb dX7_takeTurn_67 hl (k := 1) rfl (by decide) (by decide) rfl (fun ls hl => ?_)
                refine lv_goto (tgt := 2) hx hb dX7_takeTurn_70 (by decide) ?_
                refine lv_iload_n hx hb dX7_takeTurn_2 rfl (lv_at hl 0 rfl) ?_
                refine lv_aload_n hx hb dX7_takeTurn_3 rfl (lv_at hl 2 rfl) ?_
                refine h_geti (ci := 7) (C := RX7) (F := TX7) (N := 11) hx hb hts in7 hown hK hH (by decide) (rfl : kd 23 = 7) (by decide) rfl 1 (by decide) wd0 (fun _ h9 => h9) (by decide) rfl dX7_takeTurn_4 ?_
                refine sj_i (y := (i 23 1)) ((up2_k _ _ (by decide)).trans ((up2_k _ _ (by decide)).trans (up2_k _ _ (by decide)))) ?_
                refine lv_icmp_ge (tgt := 73) hx hb dX7_takeTurn_7 (by decide) (fun _ => ?_) (fun h => absurd (p_le (rfl : (i 23 1).toInt = _) (show (3 : Int32).toInt = 3 from rfl) (by omega)) h)
                refine lv_aload_n hx hb dX7_takeTurn_73 rfl (lv_at hl 2 rfl) ?_
                refine h_geti (ci := 7) (C := RX7) (F := TX7) (N := 11) hx hb hts in7 hown hK hH (by decide) (rfl : kd 23 = 7) (by decide) rfl 2 (by decide) wd1 (fun _ h9 => h9) (by decide) rfl dX7_takeTurn_74 ?_
                refine sj_i (y := 2) (up2_at _ _ _ _) ?_
                have hlv_387 : (2 : Int32).toInt = 2 := rfl
                have hz0 : (0 : Int32).toInt = 0 := rfl
                have hz1 : (1 : Int32).toInt = 1 := rfl
                have hz2 : (2 : Int32).toInt = 2 := rfl
                have hw_388 : ((up2 (up2 (up2 i 23 2 0) 23 2 1) 23 2 2) 23 1).toInt = ((i 23 1) : Int32).toInt := congrArg Int32.toInt (((up2_k _ _ (by decide)).trans ((up2_k _ _ (by decide)).trans (up2_k _ _ (by decide)))))
                have hw_389 : ((up2 (up2 (up2 i 23 2 0) 23 2 1) 23 2 2) 23 2).toInt = (2 : Int32).toInt := congrArg Int32.toInt ((up2_at _ _ _ _))
                have hw_390 : ((up2 (up2 (up2 i 23 2 0) 23 2 1) 23 2 2) 23 4).toInt = ((i 23 4) : Int32).toInt := congrArg Int32.toInt (((up2_k _ _ (by decide)).trans ((up2_k _ _ (by decide)).trans (up2_k _ _ (by decide)))))
                have hw_391 : ((up2 (up2 (up2 i 23 2 0) 23 2 1) 23 2 2) 23 5).toInt = ((i 23 5) : Int32).toInt := congrArg Int32.toInt (((up2_k _ _ (by decide)).trans ((up2_k _ _ (by decide)).trans (up2_k _ _ (by decide)))))
                have hw_392 : ((up2 (up2 (up2 i 23 2 0) 23 2 1) 23 2 2) 23 6).toInt = ((i 23 6) : Int32).toInt := congrArg Int32.toInt (((up2_k _ _ (by decide)).trans ((up2_k _ _ (by decide)).trans (up2_k _ _ (by decide)))))
                have hw_393 : ((up2 (up2 (up2 i 23 2 0) 23 2 1) 23 2 2) 23 7).toInt = ((i 23 7) : Int32).toInt := congrArg Int32.toInt (((up2_k _ _ (by decide)).trans ((up2_k _ _ (by decide)).trans (up2_k _ _ (by decide)))))
                have hw_394 : ((up2 (up2 (up2 i 23 2 0) 23 2 1) 23 2 2) 23 8).toInt = ((i 23 8) : Int32).toInt := congrArg Int32.toInt (((up2_k _ _ (by decide)).trans ((up2_k _ _ (by decide)).trans (up2_k _ _ (by decide)))))
                have hw_395 : ((up2 (up2 (up2 i 23 2 0) 23 2 1) 23 2 2) 23 10).toInt = ((i 23 10) : Int32).toInt := congrArg Int32.toInt (((up2_k _ _ (by decide)).trans ((up2_k _ _ (by decide)).trans (up2_k _ _ (by decide)))))
                exact sj_zret hx hb hr hlocks rfl hS (up2 (up2 (up2 i 23 2 0) 23 2 1) 23 2 2) ⟨hO_371, (fun a ha => ((up2_n _ _ (by omega)).trans ((up2_n _ _ (by omega)).trans (up2_n _ _ (by omega))))), ⟨by decide, by decide⟩, (by refine ⟨?_, ?_, ?_, ?_, ?_, ?_, ?_, ?_, ?_, ?_⟩ <;> omega)⟩ hH (sj_Knil hK) (Nat.le_of_ble_eq_true rfl) (Nat.le_of_ble_eq_true rfl) dX7_takeTurn_77
              · skip
                have h_396 := s_nle (rfl : (i 23 4).toInt = _) (rfl : (i 23 5).toInt = _) c_385
                refine lv_iload_n hx hb dX7_takeTurn_65 rfl (lv_at hl 0 rfl) ?_
                have hlv_397 : (1 : Int32).toInt = 1 := rfl
                have hz0 : (0 : Int32).toInt = 0 := rfl
                have hz1 : (1 : Int32).toInt = 1 := rfl
                have hz2 : (2 : Int32).toInt = 2 := rfl
                have hw_398 : ((up2 (up2 (up2 i 23 2 0) 23 2 1) 23 2 2) 23 1).toInt = ((i 23 1) : Int32).toInt := congrArg Int32.toInt (((up2_k _ _ (by decide)).trans ((up2_k _ _ (by decide)).trans (up2_k _ _ (by decide)))))
                have hw_399 : ((up2 (up2 (up2 i 23 2 0) 23 2 1) 23 2 2) 23 2).toInt = (2 : Int32).toInt := congrArg Int32.toInt ((up2_at _ _ _ _))
                have hw_400 : ((up2 (up2 (up2 i 23 2 0) 23 2 1) 23 2 2) 23 4).toInt = ((i 23 4) : Int32).toInt := congrArg Int32.toInt (((up2_k _ _ (by decide)).trans ((up2_k _ _ (by decide)).trans (up2_k _ _ (by decide)))))
                have hw_401 : ((up2 (up2 (up2 i 23 2 0) 23 2 1) 23 2 2) 23 5).toInt = ((i 23 5) : Int32).toInt := congrArg Int32.toInt (((up2_k _ _ (by decide)).trans ((up2_k _ _ (by decide)).trans (up2_k _ _ (by decide)))))
                have hw_402 : ((up2 (up2 (up2 i 23 2 0) 23 2 1) 23 2 2) 23 6).toInt = ((i 23 6) : Int32).toInt := congrArg Int32.toInt (((up2_k _ _ (by decide)).trans ((up2_k _ _ (by decide)).trans (up2_k _ _ (by decide)))))
                have hw_403 : ((up2 (up2 (up2 i 23 2 0) 23 2 1) 23 2 2) 23 7).toInt = ((i 23 7) : Int32).toInt := congrArg Int32.toInt (((up2_k _ _ (by decide)).trans ((up2_k _ _ (by decide)).trans (up2_k _ _ (by decide)))))
                have hw_404 : ((up2 (up2 (up2 i 23 2 0) 23 2 1) 23 2 2) 23 8).toInt = ((i 23 8) : Int32).toInt := congrArg Int32.toInt (((up2_k _ _ (by decide)).trans ((up2_k _ _ (by decide)).trans (up2_k _ _ (by decide)))))
                have hw_405 : ((up2 (up2 (up2 i 23 2 0) 23 2 1) 23 2 2) 23 10).toInt = ((i 23 10) : Int32).toInt := congrArg Int32.toInt (((up2_k _ _ (by decide)).trans ((up2_k _ _ (by decide)).trans (up2_k _ _ (by decide)))))
                exact sj_zret hx hb hr hlocks rfl hS (up2 (up2 (up2 i 23 2 0) 23 2 1) 23 2 2) ⟨hO_371, (fun a ha => ((up2_n _ _ (by omega)).trans ((up2_n _ _ (by omega)).trans (up2_n _ _ (by omega))))), ⟨by decide, by decide⟩, (by refine ⟨?_, ?_, ?_, ?_, ?_, ?_, ?_, ?_, ?_, ?_⟩ <;> omega)⟩ hH (sj_Knil hK) (Nat.le_of_ble_eq_true rfl) (Nat.le_of_ble_eq_true rfl) dX7_takeTurn_66
          · skip
            have h_406 := s_nle (rfl : (i 23 4).toInt = _) (rfl : (i 23 5).toInt = _) c_369
            refine lv_iload_n hx hb dX7_takeTurn_65 rfl (lv_at hl 0 rfl) ?_
            have hlv_407 : (0 : Int32).toInt = 0 := rfl
            have hz0 : (0 : Int32).toInt = 0 := rfl
            have hz1 : (1 : Int32).toInt = 1 := rfl
            have hz2 : (2 : Int32).toInt = 2 := rfl
            have hw_408 : ((up2 (up2 i 23 2 0) 23 2 1) 23 1).toInt = ((i 23 1) : Int32).toInt := congrArg Int32.toInt (((up2_k _ _ (by decide)).trans (up2_k _ _ (by decide))))
            have hw_409 : ((up2 (up2 i 23 2 0) 23 2 1) 23 2).toInt = (1 : Int32).toInt := congrArg Int32.toInt ((up2_at _ _ _ _))
            have hw_410 : ((up2 (up2 i 23 2 0) 23 2 1) 23 4).toInt = ((i 23 4) : Int32).toInt := congrArg Int32.toInt (((up2_k _ _ (by decide)).trans (up2_k _ _ (by decide))))
            have hw_411 : ((up2 (up2 i 23 2 0) 23 2 1) 23 5).toInt = ((i 23 5) : Int32).toInt := congrArg Int32.toInt (((up2_k _ _ (by decide)).trans (up2_k _ _ (by decide))))
            have hw_412 : ((up2 (up2 i 23 2 0) 23 2 1) 23 6).toInt = ((i 23 6) : Int32).toInt := congrArg Int32.toInt (((up2_k _ _ (by decide)).trans (up2_k _ _ (by decide))))
            have hw_413 : ((up2 (up2 i 23 2 0) 23 2 1) 23 7).toInt = ((i 23 7) : Int32).toInt := congrArg Int32.toInt (((up2_k _ _ (by decide)).trans (up2_k _ _ (by decide))))
            have hw_414 : ((up2 (up2 i 23 2 0) 23 2 1) 23 8).toInt = ((i 23 8) : Int32).toInt := congrArg Int32.toInt (((up2_k _ _ (by decide)).trans (up2_k _ _ (by decide))))
            have hw_415 : ((up2 (up2 i 23 2 0) 23 2 1) 23 10).toInt = ((i 23 10) : Int32).toInt := congrArg Int32.toInt (((up2_k _ _ (by decide)).trans (up2_k _ _ (by decide))))
            exact sj_zret hx hb hr hlocks rfl hS (up2 (up2 i 23 2 0) 23 2 1) ⟨hO_355, (fun a ha => ((up2_n _ _ (by omega)).trans (up2_n _ _ (by omega)))), ⟨by decide, by decide⟩, (by refine ⟨?_, ?_, ?_, ?_, ?_, ?_, ?_, ?_, ?_, ?_⟩ <;> omega)⟩ hH (sj_Knil hK) (Nat.le_of_ble_eq_true rfl) (Nat.le_of_ble_eq_true rfl) dX7_takeTurn_66
      · skip
        have h_416 := s_nle (rfl : (i 23 4).toInt = _) (rfl : (i 23 5).toInt = _) c_353
        refine lv_iload_n hx hb dX7_takeTurn_65 rfl (lv_at hl 0 rfl) ?_
        have hz0 : (0 : Int32).toInt = 0 := rfl
        have hz1 : (1 : Int32).toInt = 1 := rfl
        have hz2 : (2 : Int32).toInt = 2 := rfl
        have hw_417 : ((up2 i 23 2 0) 23 1).toInt = ((i 23 1) : Int32).toInt := congrArg Int32.toInt ((up2_k _ _ (by decide)))
        have hw_418 : ((up2 i 23 2 0) 23 2).toInt = (0 : Int32).toInt := congrArg Int32.toInt ((up2_at _ _ _ _))
        have hw_419 : ((up2 i 23 2 0) 23 4).toInt = ((i 23 4) : Int32).toInt := congrArg Int32.toInt ((up2_k _ _ (by decide)))
        have hw_420 : ((up2 i 23 2 0) 23 5).toInt = ((i 23 5) : Int32).toInt := congrArg Int32.toInt ((up2_k _ _ (by decide)))
        have hw_421 : ((up2 i 23 2 0) 23 6).toInt = ((i 23 6) : Int32).toInt := congrArg Int32.toInt ((up2_k _ _ (by decide)))
        have hw_422 : ((up2 i 23 2 0) 23 7).toInt = ((i 23 7) : Int32).toInt := congrArg Int32.toInt ((up2_k _ _ (by decide)))
        have hw_423 : ((up2 i 23 2 0) 23 8).toInt = ((i 23 8) : Int32).toInt := congrArg Int32.toInt ((up2_k _ _ (by decide)))
        have hw_424 : ((up2 i 23 2 0) 23 10).toInt = ((i 23 10) : Int32).toInt := congrArg Int32.toInt ((up2_k _ _ (by decide)))
        exact sj_zret hx hb hr hlocks rfl hS (up2 i 23 2 0) ⟨hO_338, (fun a ha => (up2_n _ _ (by omega))), ⟨by omega, by omega⟩, (by refine ⟨?_, ?_, ?_, ?_, ?_, ?_, ?_, ?_, ?_, ?_⟩ <;> omega)⟩ hH (sj_Knil hK) (Nat.le_of_ble_eq_true rfl) (Nat.le_of_ble_eq_true rfl) dX7_takeTurn_66
set_option maxHeartbeats 2000000 in
set_option maxRecDepth 100000 in
theorem k_takeCase (l : Launch) (D : va_G) (g : Nat → Nat) (ka : Nat → ClassId) (ad : Nat → Nat) (i : Nat → Nat → Int32) (r : Nat → Nat → Nat) (L : Nat → Nat → Int64) (d : Nat → Nat → UInt64) (w : Nat) (hO : OkI i) (hR : RS r) (sz : Nat) (hw : w < 3) (htk : (i 23 5).toInt < (i 23 4).toInt) (hev : (i 23 10).toInt ≤ 2000000000) : Met l yX7_takeCase wsX7_takeCase ({ frames := 1, cells := 0, slots := 0, locals := 25 }) (va_Pc [.ref (g 23), .ref (g (25 + 1 * w))] (sj_B D (hwc g ka i r L d) (hT ka) sz (gx ad (va_A (hwc g ka i r L d) sz)))) (sj_Qv (S := (Nat → Nat → Int32) × (Nat → Nat → UInt64)) D (fun u => OkI u.1 ∧ (∀ a, ¬ (a = 25 + 1 * w ∨ a = 23 ∨ a = 29) → u.1 a = i a) ∧ (∀ a, ¬ (a = 25 + 1 * w) → u.2 a = d a) ∧ ((u.1 23 5).toInt = (i 23 5).toInt + 1 ∧ (u.1 23 10).toInt = (i 23 10).toInt + 1 ∧ (u.1 23 1).toInt = (i 23 1).toInt ∧ (u.1 23 2).toInt = (i 23 2).toInt ∧ (u.1 23 4).toInt = (i 23 4).toInt ∧ (u.1 23 6).toInt = (i 23 6).toInt ∧ (u.1 23 7).toInt = (i 23 7).toInt ∧ (u.1 23 8).toInt = (i 23 8).toInt ∧ (u.1 (25 + 1 * w) 1).toInt = (i 28 (i 23 5).toInt.toNat).toInt ∧ (u.1 (25 + 1 * w) 2).toInt = 0 ∧ (u.1 (25 + 1 * w) 3).toInt = 0 ∧ (u.1 (25 + 1 * w) 4).toInt = 0) ∧ (dfin (u.2 (25 + 1 * w) 5))) (fun u => hwc g ka u.1 r L u.2) (fun _ => []) (va_A (hwc g ka i r L d) sz)) 0 0 (va_A (hwc g ka i r L d) sz) := by
  refine x_met (Ex := gx ad) (cc := cX7_takeCase) (maxL := 2) (ret := none) (by decide) rfl (Nat.le_of_ble_eq_true rfl) ?_
  intro p e s m below meth c A ls hx hb hr hml hts hown hlocks hA hS hH hK hE hl
  have hown : s.vm.findClass RX7 = some m.cls := hown
  have in7 : ∀ w ∈ wsX70, w ∈ wsX7_takeCase := (fun _ h => (List.mem_cons_of_mem _ (List.mem_append_left _ (List.mem_append_right _ h))))
  have in10 : ∀ w ∈ wsX100, w ∈ wsX7_takeCase := (fun _ h => (List.mem_cons_of_mem _ (List.mem_append_right _ h)))
  have wd0 := hts (.fieldLink RX7 39 "StoryDesk$Run" "taken" "I") (List.mem_cons_of_mem _ (List.mem_append_left _ (List.mem_append_left _ lm0)))
  have wd1 := hts (.fieldLink RX7 36 "StoryDesk$Run" "queued" "I") (List.mem_cons_of_mem _ (List.mem_append_left _ (List.mem_append_left _ lm1)))
  have wd2 := hts (.fieldLink RX7 22 "StoryDesk$Run" "queue" "[I") (List.mem_cons_of_mem _ (List.mem_append_left _ (List.mem_append_left _ lm2)))
  have wd3 := hts (.fieldLink RX7 55 "StoryDesk$Worker" "story" "I") (List.mem_cons_of_mem _ (List.mem_append_left _ (List.mem_append_left _ lm3)))
  have wd4 := hts (.fieldLink RX7 61 "StoryDesk$Worker" "name" "I") (List.mem_cons_of_mem _ (List.mem_append_left _ (List.mem_append_left _ lm4)))
  have hl : lv_has ls 2 [(0, .ref (g 23)), (1, .ref (g (25 + 1 * w)))] := hl
  have hK : va_K D vwCl (hT ka) s := hK
  refine lv_aload_n hx hb dX7_takeCase_0 rfl (lv_at hl 0 rfl) ?_
  have bx_1 : (0 : Int) ≤ (i 23 5).toInt ∧ (i 23 5).toInt ≤ 24 := hO 23 5
  refine h_geti (ci := 7) (C := RX7) (F := TX7) (N := 11) hx hb hts in7 hown hK hH (by decide) (rfl : kd 23 = 7) (by decide) rfl 5 (by decide) wd0 (fun _ h9 => h9) (by decide) rfl dX7_takeCase_1 ?_
  refine lv_aload_n hx hb dX7_takeCase_4 rfl (lv_at hl 0 rfl) ?_
  have bx_2 : (0 : Int) ≤ (i 23 4).toInt ∧ (i 23 4).toInt ≤ 24 := hO 23 4
  refine h_geti (ci := 7) (C := RX7) (F := TX7) (N := 11) hx hb hts in7 hown hK hH (by decide) (rfl : kd 23 = 7) (by decide) rfl 4 (by decide) wd1 (fun _ h9 => h9) (by decide) rfl dX7_takeCase_5 ?_
  refine lv_icmp_ge (tgt := 48) hx hb dX7_takeCase_8 (by decide) (fun h => absurd h (p_nle (rfl : (i 23 4).toInt = _) (rfl : (i 23 5).toInt = _) (by omega))) (fun _ => ?_)
  refine lv_aload_n hx hb dX7_takeCase_11 rfl (lv_at hl 1 rfl) ?_
  refine lv_aload_n hx hb dX7_takeCase_12 rfl (lv_at hl 0 rfl) ?_
  refine h_getr (ci := 7) (C := RX7) (F := TX7) (N := 11) hx hb hts in7 hown hK hH (by decide) (rfl : kd 23 = 7) (by decide) rfl 3 (by decide) wd2 (fun _ h9 => h9) (by decide) rfl (t := 28) (hR 23 3 rfl) (by decide) dX7_takeCase_13 ?_
  refine lv_aload_n hx hb dX7_takeCase_16 rfl (lv_at hl 0 rfl) ?_
  refine h_geti (ci := 7) (C := RX7) (F := TX7) (N := 11) hx hb hts in7 hown hK hH (by decide) (rfl : kd 23 = 7) (by decide) rfl 5 (by decide) wd0 (fun _ h9 => h9) (by decide) rfl dX7_takeCase_17 ?_
  have bx_3 : (0 : Int) ≤ (i 28 ((i 23 5).toInt).toNat).toInt ∧ (i 28 ((i 23 5).toInt).toNat).toInt ≤ 23 := hO 28 ((i 23 5).toInt).toNat
  refine h_iald hx hb hK hH (by decide) (rfl : kd 28 = 13) (s_vin (N := 24) (rfl : (i 23 5).toInt = _) (rfl : ln 28 = 24) (by omega) (by omega)) dX7_takeCase_20 ?_
  have ek_4 : (i 23 5).toNatClampNeg = ((i 23 5).toInt).toNat := (s_cl (show (i 23 5).toInt = (i 23 5).toInt by omega))
  refine sj_i (y := (i 28 ((i 23 5).toInt).toNat)) (by rw [ek_4]) ?_
  have hzm : (-1 : Int32).toInt = -1 := rfl
  have hz0 : (0 : Int32).toInt = 0 := rfl
  refine x_callv (va_runV (As := [.int (i 28 ((i 23 5).toInt).toNat)]) (rest := []) ⟨hx, hb, hml, hown, hts⟩ (k_begin l D g ka ad i r L d w (i 28 ((i 23 5).toInt).toNat) hO hR s.heap.size (by first | omega | decide) (by first | omega | decide) (by first | omega | decide)) (cwV 1 hts gX7_takeCase_X10_begin rfl rfl rfl (by decide +kernel) ⟨(Nat.le_of_ble_eq_true rfl), (Nat.le_of_ble_eq_true rfl)⟩) (x_preV (q := (RX10, TX10, 8)) hH hK (q_obj (lt_nK (by omega)) (kd_wk hw) (by decide)) rfl gxb (gxw hE hS (x_F hH hS hA))) rfl rfl hl.1 rfl (lv_room (Nat.le_of_ble_eq_true rfl)) dX7_takeCase_21 ⟨(Nat.le_of_ble_eq_true rfl), (Nat.le_of_ble_eq_true rfl)⟩) hH hS hA rfl rfl (fun u_9 H locs hw_6 hH hS => ?_)
  obtain ⟨im_7, dm_8⟩ := u_9
  try dsimp only at hw_6
  have hH : sj_H D A (hwc g ka im_7 r L dm_8) H := hH
  obtain ⟨hO_11, hfr_10, hfd_12, he_13, hx2_14⟩ := hw_6
  refine lv_aload_n hx hb dX7_takeCase_24 rfl (lv_at hl 0 rfl) ?_
  refine lv_dup hx hb dX7_takeCase_25 rfl ?_
  refine h_geti (ci := 7) (C := RX7) (F := TX7) (N := 11) hx hb hts in7 hown hK hH (by decide) (rfl : kd 23 = 7) (by decide) rfl 5 (by decide) wd0 (fun _ h9 => h9) (by decide) rfl dX7_takeCase_26 ?_
  refine sj_i (y := (i 23 5)) (congrFun (hfr_10 23 (by omega)) _) ?_
  refine lv_iconst (v := 1) hx hb dX7_takeCase_29 (by decide) ?_
  refine lv_iadd hx hb dX7_takeCase_30 ?_
  obtain ⟨z_15, ez_15, hz_15⟩ := s_add (rfl : (i 23 5).toInt = _) (show (1 : Int32).toInt = 1 from rfl) (by omega) (by omega)
  refine sj_i ez_15 ?_
  have hO_16 := okp hO_11 (n := 23) (k := 5) (v := z_15) (show (0 : Int) ≤ (z_15 : Int32).toInt ∧ (z_15 : Int32).toInt ≤ 24 from ⟨by omega, by omega⟩)
  refine h_puti (ty := .int) (ci := 7) (C := RX7) (F := TX7) (N := 11) hx hb hts in7 tyX7 tyX7_ok nmX7 hown hK hH hS (by decide) (rfl : kd 23 = 7) (by decide) rfl 5 (by decide) wd0 (fun _ h9 => h9) rfl (by decide +kernel) rfl rfl (by decide) rfl dX7_takeCase_31 (fun H locs hH hS => ?_)
  refine lv_aload_n hx hb dX7_takeCase_34 rfl (lv_at hl 0 rfl) ?_
  refine lv_iconst (v := 1) hx hb dX7_takeCase_35 (by decide) ?_
  refine lv_aload_n hx hb dX7_takeCase_36 rfl (lv_at hl 1 rfl) ?_
  have bx_17 : (-1 : Int) ≤ (im_7 (25 + 1 * w) 1).toInt ∧ (im_7 (25 + 1 * w) 1).toInt ≤ 23 := by have h9 := hO_11 (25 + 1 * w) 1; rw [bx_wk hw 1] at h9; exact h9
  refine h_geti (ci := 10) (C := RX10) (F := TX10) (N := 8) hx hb hts in10 hown hK hH (lt_nK (by omega)) (kd_wk hw) (by decide) rfl 1 (by decide) wd3 (fun _ h9 => h9) (by decide) rfl dX7_takeCase_37 ?_
  refine sj_i (y := (im_7 (25 + 1 * w) 1)) (congrFun (up2_n _ _ (by omega)) _) ?_
  refine lv_aload_n hx hb dX7_takeCase_40 rfl (lv_at hl 1 rfl) ?_
  have bx_18 : (0 : Int) ≤ (im_7 (25 + 1 * w) 0).toInt ∧ (im_7 (25 + 1 * w) 0).toInt ≤ 2 := by have h9 := hO_11 (25 + 1 * w) 0; rw [bx_wk hw 0] at h9; exact h9
  refine h_geti (ci := 10) (C := RX10) (F := TX10) (N := 8) hx hb hts in10 hown hK hH (lt_nK (by omega)) (kd_wk hw) (by decide) rfl 0 (by decide) wd4 (fun _ h9 => h9) (by decide) rfl dX7_takeCase_41 ?_
  refine sj_i (y := (im_7 (25 + 1 * w) 0)) (congrFun (up2_n _ _ (by omega)) _) ?_
  refine lv_iconst (v := 0) hx hb dX7_takeCase_44 (by decide) ?_
  have hl_19 : (1 : Int32).toInt = 1 := rfl
  have hl_20 : (0 : Int32).toInt = 0 := rfl
  have hzm : (-1 : Int32).toInt = -1 := rfl
  have hz0 : (0 : Int32).toInt = 0 := rfl
  have hw_21 : ((up2 im_7 23 5 z_15) 23 1).toInt = ((i 23 1) : Int32).toInt := congrArg Int32.toInt (((up2_k _ _ (by decide)).trans (congrFun (hfr_10 23 (by omega)) _)))
  have hw_22 : ((up2 im_7 23 5 z_15) 23 2).toInt = ((i 23 2) : Int32).toInt := congrArg Int32.toInt (((up2_k _ _ (by decide)).trans (congrFun (hfr_10 23 (by omega)) _)))
  have hw_23 : ((up2 im_7 23 5 z_15) 23 4).toInt = ((i 23 4) : Int32).toInt := congrArg Int32.toInt (((up2_k _ _ (by decide)).trans (congrFun (hfr_10 23 (by omega)) _)))
  have hw_24 : ((up2 im_7 23 5 z_15) 23 5).toInt = (z_15 : Int32).toInt := congrArg Int32.toInt ((up2_at _ _ _ _))
  have hw_25 : ((up2 im_7 23 5 z_15) 23 6).toInt = ((i 23 6) : Int32).toInt := congrArg Int32.toInt (((up2_k _ _ (by decide)).trans (congrFun (hfr_10 23 (by omega)) _)))
  have hw_26 : ((up2 im_7 23 5 z_15) 23 7).toInt = ((i 23 7) : Int32).toInt := congrArg Int32.toInt (((up2_k _ _ (by decide)).trans (congrFun (hfr_10 23 (by omega)) _)))
  have hw_27 : ((up2 im_7 23 5 z_15) 23 8).toInt = ((i 23 8) : Int32).toInt := congrArg Int32.toInt (((up2_k _ _ (by decide)).trans (congrFun (hfr_10 23 (by omega)) _)))
  have hw_28 : ((up2 im_7 23 5 z_15) 23 10).toInt = ((i 23 10) : Int32).toInt := congrArg Int32.toInt (((up2_k _ _ (by decide)).trans (congrFun (hfr_10 23 (by omega)) _)))
  have hw_29 : ((up2 im_7 23 5 z_15) (25 + 1 * w) 0).toInt = ((im_7 (25 + 1 * w) 0) : Int32).toInt := congrArg Int32.toInt ((congrFun (up2_n _ _ (by omega)) _))
  have hw_30 : ((up2 im_7 23 5 z_15) (25 + 1 * w) 1).toInt = ((im_7 (25 + 1 * w) 1) : Int32).toInt := congrArg Int32.toInt ((congrFun (up2_n _ _ (by omega)) _))
  have hw_31 : ((up2 im_7 23 5 z_15) (25 + 1 * w) 2).toInt = ((im_7 (25 + 1 * w) 2) : Int32).toInt := congrArg Int32.toInt ((congrFun (up2_n _ _ (by omega)) _))
  have hw_32 : ((up2 im_7 23 5 z_15) (25 + 1 * w) 3).toInt = ((im_7 (25 + 1 * w) 3) : Int32).toInt := congrArg Int32.toInt ((congrFun (up2_n _ _ (by omega)) _))
  have hw_33 : ((up2 im_7 23 5 z_15) (25 + 1 * w) 4).toInt = ((im_7 (25 + 1 * w) 4) : Int32).toInt := congrArg Int32.toInt ((congrFun (up2_n _ _ (by omega)) _))
  refine x_callv (va_runV (As := [.int 1, .int (im_7 (25 + 1 * w) 1), .int (im_7 (25 + 1 * w) 0), .int 0]) (rest := []) ⟨hx, hb, hml, hown, hts⟩ (k_tell l D g ka ad (up2 im_7 23 5 z_15) r L dm_8 1 (im_7 (25 + 1 * w) 1) (im_7 (25 + 1 * w) 0) 0 hO_16 hR H.size (by first | omega | decide)) (cwV 4 hts gX7_takeCase_X7_tell rfl rfl rfl (by decide +kernel) ⟨(Nat.le_of_ble_eq_true rfl), (Nat.le_of_ble_eq_true rfl)⟩) (x_preV (q := (RX7, TX7, 11)) hH hK (q_obj (by decide) (rfl : kd 23 = 7) (by decide)) rfl gxb (gxw hE hS (x_F hH hS hA))) rfl rfl hl.1 rfl (lv_room (Nat.le_of_ble_eq_true rfl)) dX7_takeCase_45 ⟨(Nat.le_of_ble_eq_true rfl), (Nat.le_of_ble_eq_true rfl)⟩) hH hS hA rfl rfl (fun im_36 H locs hw_35 hH hS => ?_)
  have hH : sj_H D A (hwc g ka im_36 r L dm_8) H := hH
  obtain ⟨hO_38, hfr_37, he_39⟩ := hw_35
  have hzm : (-1 : Int32).toInt = -1 := rfl
  have hz0 : (0 : Int32).toInt = 0 := rfl
  have hw_40 : (im_36 (25 + 1 * w) 0).toInt = ((im_7 (25 + 1 * w) 0) : Int32).toInt := congrArg Int32.toInt (((congrFun (hfr_37 (25 + 1 * w) (by omega)) _).trans (congrFun (up2_n _ _ (by omega)) _)))
  have hw_41 : (im_36 (25 + 1 * w) 1).toInt = ((im_7 (25 + 1 * w) 1) : Int32).toInt := congrArg Int32.toInt (((congrFun (hfr_37 (25 + 1 * w) (by omega)) _).trans (congrFun (up2_n _ _ (by omega)) _)))
  have hw_42 : (im_36 (25 + 1 * w) 2).toInt = ((im_7 (25 + 1 * w) 2) : Int32).toInt := congrArg Int32.toInt (((congrFun (hfr_37 (25 + 1 * w) (by omega)) _).trans (congrFun (up2_n _ _ (by omega)) _)))
  have hw_43 : (im_36 (25 + 1 * w) 3).toInt = ((im_7 (25 + 1 * w) 3) : Int32).toInt := congrArg Int32.toInt (((congrFun (hfr_37 (25 + 1 * w) (by omega)) _).trans (congrFun (up2_n _ _ (by omega)) _)))
  have hw_44 : (im_36 (25 + 1 * w) 4).toInt = ((im_7 (25 + 1 * w) 4) : Int32).toInt := congrArg Int32.toInt (((congrFun (hfr_37 (25 + 1 * w) (by omega)) _).trans (congrFun (up2_n _ _ (by omega)) _)))
  exact sj_vret hx hb hr hlocks hS (im_36, dm_8) ⟨hO_38, (fun a ha => ((hfr_37 a (by omega)).trans ((up2_n _ _ (by omega)).trans (hfr_10 a (by omega))))), (fun a ha => (hfd_12 a (by omega))), (by dsimp only; refine ⟨?_, ?_, ?_, ?_, ?_, ?_, ?_, ?_, ?_, ?_, ?_, ?_⟩ <;> omega), hx2_14⟩ hH (sj_Knil hK) (Nat.le_of_ble_eq_true rfl) (Nat.le_of_ble_eq_true rfl) dX7_takeCase_48
set_option maxHeartbeats 2000000 in
set_option maxRecDepth 100000 in
theorem k_finish (l : Launch) (D : va_G) (g : Nat → Nat) (ka : Nat → ClassId) (ad : Nat → Nat) (i : Nat → Nat → Int32) (r : Nat → Nat → Nat) (L : Nat → Nat → Int64) (d : Nat → Nat → UInt64) (w : Nat) (hO : OkI i) (hR : RS r) (sz : Nat) (hw : w < 3) (hov : (i 23 6).toInt ≤ 23) (hev : (i 23 10).toInt ≤ 2000000000) : Met l yX7_finishCase wsX7_finishCase ({ frames := 1, cells := 0, slots := 0, locals := 30 }) (va_Pc [.ref (g 23), .ref (g (25 + 1 * w))] (sj_B D (hwc g ka i r L d) (hT ka) sz (gx ad (va_A (hwc g ka i r L d) sz)))) (sj_Qv (S := (Nat → Nat → Int32)) D (fun u => OkI u ∧ (∀ a, ¬ (a = 25 + 1 * w ∨ a = 23 ∨ a = 29) → u a = i a) ∧ ((u 23 6).toInt = (i 23 6).toInt + 1 ∧ (u 23 10).toInt = (i 23 10).toInt + 1 ∧ (u 23 1).toInt = (i 23 1).toInt ∧ (u 23 2).toInt = (i 23 2).toInt ∧ (u 23 4).toInt = (i 23 4).toInt ∧ (u 23 5).toInt = (i 23 5).toInt ∧ (u 23 8).toInt = (i 23 8).toInt ∧ (u (25 + 1 * w) 1).toInt = -1)) (fun u => hwc g ka u r L d) (fun _ => []) (va_A (hwc g ka i r L d) sz)) 0 0 (va_A (hwc g ka i r L d) sz) := by
  refine x_met (Ex := gx ad) (cc := cX7_finishCase) (maxL := 2) (ret := none) (by decide) rfl (Nat.le_of_ble_eq_true rfl) ?_
  intro p e s m below meth c A ls hx hb hr hml hts hown hlocks hA hS hH hK hE hl
  have hown : s.vm.findClass RX7 = some m.cls := hown
  have in7 : ∀ w ∈ wsX70, w ∈ wsX7_finishCase := (fun _ h => (List.mem_cons_of_mem _ (List.mem_append_right _ h)))
  have in10 : ∀ w ∈ wsX100, w ∈ wsX7_finishCase := (fun _ h => (List.mem_cons_of_mem _ (List.mem_append_left _ (List.mem_append_right _ h))))
  have wd0 := hts (.fieldLink RX7 55 "StoryDesk$Worker" "story" "I") (List.mem_cons_of_mem _ (List.mem_append_left _ (List.mem_append_left _ lm0)))
  have wd1 := hts (.fieldLink RX7 68 "StoryDesk$Worker" "worst" "I") (List.mem_cons_of_mem _ (List.mem_append_left _ (List.mem_append_left _ lm1)))
  have wd2 := hts (.fieldLink RX7 61 "StoryDesk$Worker" "name" "I") (List.mem_cons_of_mem _ (List.mem_append_left _ (List.mem_append_left _ lm2)))
  have wd3 := hts (.fieldLink RX7 45 "StoryDesk$Run" "worst" "I") (List.mem_cons_of_mem _ (List.mem_append_left _ (List.mem_append_left _ lm3)))
  have wd4 := hts (.methodLink RX7 69 Lib.Math.max.name) (List.mem_cons_of_mem _ (List.mem_append_left _ (List.mem_append_left _ lm4)))
  have wd5 := hts (.static Lib.Math.max.name) (List.mem_cons_of_mem _ (List.mem_append_left _ (List.mem_append_left _ lm5)))
  have wd6 := hts (.initialized "java/lang/Math") (List.mem_cons_of_mem _ (List.mem_append_left _ (List.mem_append_left _ lm6)))
  have wd7 := hts (.code Lib.Math.max.name Lib.Math.max.code 2 (some .int)) (List.mem_cons_of_mem _ (List.mem_append_left _ (List.mem_append_left _ lm7)))
  have wd8 := hts (.fieldLink RX7 42 "StoryDesk$Run" "over" "I") (List.mem_cons_of_mem _ (List.mem_append_left _ (List.mem_append_left _ lm8)))
  have hl : lv_has ls 2 [(0, .ref (g 23)), (1, .ref (g (25 + 1 * w)))] := hl
  have hK : va_K D vwCl (hT ka) s := hK
  refine lv_aload_n hx hb dX7_finishCase_0 rfl (lv_at hl 0 rfl) ?_
  refine lv_iconst (v := 4) hx hb dX7_finishCase_1 (by decide) ?_
  refine lv_aload_n hx hb dX7_finishCase_2 rfl (lv_at hl 1 rfl) ?_
  have bx_1 : (-1 : Int) ≤ (i (25 + 1 * w) 1).toInt ∧ (i (25 + 1 * w) 1).toInt ≤ 23 := by have h9 := hO (25 + 1 * w) 1; rw [bx_wk hw 1] at h9; exact h9
  refine h_geti (ci := 10) (C := RX10) (F := TX10) (N := 8) hx hb hts in10 hown hK hH (lt_nK (by omega)) (kd_wk hw) (by decide) rfl 1 (by decide) wd0 (fun _ h9 => h9) (by decide) rfl dX7_finishCase_3 ?_
  refine lv_aload_n hx hb dX7_finishCase_6 rfl (lv_at hl 1 rfl) ?_
  have bx_2 : (0 : Int) ≤ (i (25 + 1 * w) 4).toInt ∧ (i (25 + 1 * w) 4).toInt ≤ 5 := by have h9 := hO (25 + 1 * w) 4; rw [bx_wk hw 4] at h9; exact h9
  refine h_geti (ci := 10) (C := RX10) (F := TX10) (N := 8) hx hb hts in10 hown hK hH (lt_nK (by omega)) (kd_wk hw) (by decide) rfl 4 (by decide) wd1 (fun _ h9 => h9) (by decide) rfl dX7_finishCase_7 ?_
  refine lv_aload_n hx hb dX7_finishCase_10 rfl (lv_at hl 1 rfl) ?_
  have bx_3 : (0 : Int) ≤ (i (25 + 1 * w) 0).toInt ∧ (i (25 + 1 * w) 0).toInt ≤ 2 := by have h9 := hO (25 + 1 * w) 0; rw [bx_wk hw 0] at h9; exact h9
  refine h_geti (ci := 10) (C := RX10) (F := TX10) (N := 8) hx hb hts in10 hown hK hH (lt_nK (by omega)) (kd_wk hw) (by decide) rfl 0 (by decide) wd2 (fun _ h9 => h9) (by decide) rfl dX7_finishCase_11 ?_
  have hl_4 : (4 : Int32).toInt = 4 := rfl
  have hzm : (-1 : Int32).toInt = -1 := rfl
  have hz0 : (0 : Int32).toInt = 0 := rfl
  refine x_callv (va_runV (As := [.int 4, .int (i (25 + 1 * w) 1), .int (i (25 + 1 * w) 4), .int (i (25 + 1 * w) 0)]) (rest := []) ⟨hx, hb, hml, hown, hts⟩ (k_tell l D g ka ad i r L d 4 (i (25 + 1 * w) 1) (i (25 + 1 * w) 4) (i (25 + 1 * w) 0) hO hR s.heap.size (by first | omega | decide)) (cwV 4 hts gX7_finishCase_X7_tell rfl rfl rfl (by decide +kernel) ⟨(Nat.le_of_ble_eq_true rfl), (Nat.le_of_ble_eq_true rfl)⟩) (x_preV (q := (RX7, TX7, 11)) hH hK (q_obj (by decide) (rfl : kd 23 = 7) (by decide)) rfl gxb (gxw hE hS (x_F hH hS hA))) rfl rfl hl.1 rfl (lv_room (Nat.le_of_ble_eq_true rfl)) dX7_finishCase_14 ⟨(Nat.le_of_ble_eq_true rfl), (Nat.le_of_ble_eq_true rfl)⟩) hH hS hA rfl rfl (fun im_7 H locs hw_6 hH hS => ?_)
  have hH : sj_H D A (hwc g ka im_7 r L d) H := hH
  obtain ⟨hO_9, hfr_8, he_10⟩ := hw_6
  refine lv_aload_n hx hb dX7_finishCase_17 rfl (lv_at hl 0 rfl) ?_
  refine lv_aload_n hx hb dX7_finishCase_18 rfl (lv_at hl 0 rfl) ?_
  have bx_11 : (0 : Int) ≤ (im_7 23 7).toInt ∧ (im_7 23 7).toInt ≤ 5 := hO_9 23 7
  refine h_geti (ci := 7) (C := RX7) (F := TX7) (N := 11) hx hb hts in7 hown hK hH (by decide) (rfl : kd 23 = 7) (by decide) rfl 7 (by decide) wd3 (fun _ h9 => h9) (by decide) rfl dX7_finishCase_19 ?_
  refine lv_aload_n hx hb dX7_finishCase_22 rfl (lv_at hl 1 rfl) ?_
  refine h_geti (ci := 10) (C := RX10) (F := TX10) (N := 8) hx hb hts in10 hown hK hH (lt_nK (by omega)) (kd_wk hw) (by decide) rfl 4 (by decide) wd1 (fun _ h9 => h9) (by decide) rfl dX7_finishCase_23 ?_
  refine sj_i (y := (i (25 + 1 * w) 4)) (congrFun (hfr_8 (25 + 1 * w) (by omega)) _) ?_
  refine va_mmax hx hb (hml.trans hl.1.symm) hown wd4 wd5 wd6 wd7 (Nat.le_of_ble_eq_true rfl) (Nat.le_of_ble_eq_true rfl) (Nat.le_of_ble_eq_true rfl) (Nat.le_of_ble_eq_true rfl) dX7_finishCase_26 ?_
  obtain ⟨z_12, ez_12⟩ : ∃ z, (if (im_7 23 7) < (i (25 + 1 * w) 4) then (i (25 + 1 * w) 4) else (im_7 23 7)) = z := ⟨_, rfl⟩
  refine sj_i ez_12 ?_
  have hz_12 := s_max (rfl : (im_7 23 7).toInt = _) (rfl : (i (25 + 1 * w) 4).toInt = _) ez_12
  have hO_13 := okp hO_9 (n := 23) (k := 7) (v := z_12) (show (0 : Int) ≤ (z_12 : Int32).toInt ∧ (z_12 : Int32).toInt ≤ 5 from ⟨by omega, by omega⟩)
  refine h_puti (ty := .int) (ci := 7) (C := RX7) (F := TX7) (N := 11) hx hb hts in7 tyX7 tyX7_ok nmX7 hown hK hH hS (by decide) (rfl : kd 23 = 7) (by decide) rfl 7 (by decide) wd3 (fun _ h9 => h9) rfl (by decide +kernel) rfl rfl (by decide) rfl dX7_finishCase_29 (fun H locs hH hS => ?_)
  refine lv_aload_n hx hb dX7_finishCase_32 rfl (lv_at hl 1 rfl) ?_
  refine lv_iconst (v := (-1)) hx hb dX7_finishCase_33 (by decide) ?_
  have hO_14 := okp hO_13 (n := (25 + 1 * w)) (k := 1) (v := (-1)) (by rw [bx_wk hw 1]; exact (show (-1 : Int) ≤ ((-1) : Int32).toInt ∧ ((-1) : Int32).toInt ≤ 23 from ⟨by decide, by decide⟩))
  refine h_puti (ty := .int) (ci := 10) (C := RX10) (F := TX10) (N := 8) hx hb hts in10 tyX10 tyX10_ok nmX10 hown hK hH hS (lt_nK (by omega)) (kd_wk hw) (by decide) rfl 1 (by decide) wd0 (fun _ h9 => h9) rfl (by decide +kernel) rfl rfl (by decide) rfl dX7_finishCase_34 (fun H locs hH hS => ?_)
  refine lv_aload_n hx hb dX7_finishCase_37 rfl (lv_at hl 0 rfl) ?_
  refine lv_dup hx hb dX7_finishCase_38 rfl ?_
  have bx_15 : (0 : Int) ≤ (im_7 23 6).toInt ∧ (im_7 23 6).toInt ≤ 24 := hO_9 23 6
  refine h_geti (ci := 7) (C := RX7) (F := TX7) (N := 11) hx hb hts in7 hown hK hH (by decide) (rfl : kd 23 = 7) (by decide) rfl 6 (by decide) wd8 (fun _ h9 => h9) (by decide) rfl dX7_finishCase_39 ?_
  refine sj_i (y := (im_7 23 6)) ((congrFun (up2_n _ _ (by omega)) _).trans (up2_k _ _ (by decide))) ?_
  refine lv_iconst (v := 1) hx hb dX7_finishCase_42 (by decide) ?_
  refine lv_iadd hx hb dX7_finishCase_43 ?_
  obtain ⟨z_16, ez_16, hz_16⟩ := s_add (rfl : (im_7 23 6).toInt = _) (show (1 : Int32).toInt = 1 from rfl) (by omega) (by omega)
  refine sj_i ez_16 ?_
  have hO_17 := okp hO_14 (n := 23) (k := 6) (v := z_16) (show (0 : Int) ≤ (z_16 : Int32).toInt ∧ (z_16 : Int32).toInt ≤ 24 from ⟨by omega, by omega⟩)
  refine h_puti (ty := .int) (ci := 7) (C := RX7) (F := TX7) (N := 11) hx hb hts in7 tyX7 tyX7_ok nmX7 hown hK hH hS (by decide) (rfl : kd 23 = 7) (by decide) rfl 6 (by decide) wd8 (fun _ h9 => h9) rfl (by decide +kernel) rfl rfl (by decide) rfl dX7_finishCase_44 (fun H locs hH hS => ?_)
  have hzm : (-1 : Int32).toInt = -1 := rfl
  have hz0 : (0 : Int32).toInt = 0 := rfl
  have hw_18 : ((up2 (up2 (up2 im_7 23 7 z_12) (25 + 1 * w) 1 (-1)) 23 6 z_16) 23 1).toInt = ((im_7 23 1) : Int32).toInt := congrArg Int32.toInt (((up2_k _ _ (by decide)).trans ((congrFun (up2_n _ _ (by omega)) _).trans (up2_k _ _ (by decide)))))
  have hw_19 : ((up2 (up2 (up2 im_7 23 7 z_12) (25 + 1 * w) 1 (-1)) 23 6 z_16) 23 2).toInt = ((im_7 23 2) : Int32).toInt := congrArg Int32.toInt (((up2_k _ _ (by decide)).trans ((congrFun (up2_n _ _ (by omega)) _).trans (up2_k _ _ (by decide)))))
  have hw_20 : ((up2 (up2 (up2 im_7 23 7 z_12) (25 + 1 * w) 1 (-1)) 23 6 z_16) 23 4).toInt = ((im_7 23 4) : Int32).toInt := congrArg Int32.toInt (((up2_k _ _ (by decide)).trans ((congrFun (up2_n _ _ (by omega)) _).trans (up2_k _ _ (by decide)))))
  have hw_21 : ((up2 (up2 (up2 im_7 23 7 z_12) (25 + 1 * w) 1 (-1)) 23 6 z_16) 23 5).toInt = ((im_7 23 5) : Int32).toInt := congrArg Int32.toInt (((up2_k _ _ (by decide)).trans ((congrFun (up2_n _ _ (by omega)) _).trans (up2_k _ _ (by decide)))))
  have hw_22 : ((up2 (up2 (up2 im_7 23 7 z_12) (25 + 1 * w) 1 (-1)) 23 6 z_16) 23 6).toInt = (z_16 : Int32).toInt := congrArg Int32.toInt ((up2_at _ _ _ _))
  have hw_23 : ((up2 (up2 (up2 im_7 23 7 z_12) (25 + 1 * w) 1 (-1)) 23 6 z_16) 23 7).toInt = (z_12 : Int32).toInt := congrArg Int32.toInt (((up2_k _ _ (by decide)).trans ((congrFun (up2_n _ _ (by omega)) _).trans (up2_at _ _ _ _))))
  have hw_24 : ((up2 (up2 (up2 im_7 23 7 z_12) (25 + 1 * w) 1 (-1)) 23 6 z_16) 23 8).toInt = ((im_7 23 8) : Int32).toInt := congrArg Int32.toInt (((up2_k _ _ (by decide)).trans ((congrFun (up2_n _ _ (by omega)) _).trans (up2_k _ _ (by decide)))))
  have hw_25 : ((up2 (up2 (up2 im_7 23 7 z_12) (25 + 1 * w) 1 (-1)) 23 6 z_16) 23 10).toInt = ((im_7 23 10) : Int32).toInt := congrArg Int32.toInt (((up2_k _ _ (by decide)).trans ((congrFun (up2_n _ _ (by omega)) _).trans (up2_k _ _ (by decide)))))
  have hw_26 : ((up2 (up2 (up2 im_7 23 7 z_12) (25 + 1 * w) 1 (-1)) 23 6 z_16) (25 + 1 * w) 0).toInt = ((i (25 + 1 * w) 0) : Int32).toInt := congrArg Int32.toInt (((congrFun (up2_n _ _ (by omega)) _).trans ((up2_k _ _ (by decide)).trans ((congrFun (up2_n _ _ (by omega)) _).trans (congrFun (hfr_8 (25 + 1 * w) (by omega)) _)))))
  have hw_27 : ((up2 (up2 (up2 im_7 23 7 z_12) (25 + 1 * w) 1 (-1)) 23 6 z_16) (25 + 1 * w) 1).toInt = ((-1) : Int32).toInt := congrArg Int32.toInt (((congrFun (up2_n _ _ (by omega)) _).trans (up2_at _ _ _ _)))
  have hw_28 : ((up2 (up2 (up2 im_7 23 7 z_12) (25 + 1 * w) 1 (-1)) 23 6 z_16) (25 + 1 * w) 2).toInt = ((i (25 + 1 * w) 2) : Int32).toInt := congrArg Int32.toInt (((congrFun (up2_n _ _ (by omega)) _).trans ((up2_k _ _ (by decide)).trans ((congrFun (up2_n _ _ (by omega)) _).trans (congrFun (hfr_8 (25 + 1 * w) (by omega)) _)))))
  have hw_29 : ((up2 (up2 (up2 im_7 23 7 z_12) (25 + 1 * w) 1 (-1)) 23 6 z_16) (25 + 1 * w) 3).toInt = ((i (25 + 1 * w) 3) : Int32).toInt := congrArg Int32.toInt (((congrFun (up2_n _ _ (by omega)) _).trans ((up2_k _ _ (by decide)).trans ((congrFun (up2_n _ _ (by omega)) _).trans (congrFun (hfr_8 (25 + 1 * w) (by omega)) _)))))
  have hw_30 : ((up2 (up2 (up2 im_7 23 7 z_12) (25 + 1 * w) 1 (-1)) 23 6 z_16) (25 + 1 * w) 4).toInt = ((i (25 + 1 * w) 4) : Int32).toInt := congrArg Int32.toInt (((congrFun (up2_n _ _ (by omega)) _).trans ((up2_k _ _ (by decide)).trans ((congrFun (up2_n _ _ (by omega)) _).trans (congrFun (hfr_8 (25 + 1 * w) (by omega)) _)))))
  exact sj_vret hx hb hr hlocks hS (up2 (up2 (up2 im_7 23 7 z_12) (25 + 1 * w) 1 (-1)) 23 6 z_16) ⟨hO_17, (fun a ha => ((up2_n _ _ (by omega)).trans ((up2_n _ _ (by omega)).trans ((up2_n _ _ (by omega)).trans (hfr_8 a (by omega)))))), (by refine ⟨?_, ?_, ?_, ?_, ?_, ?_, ?_, ?_⟩ <;> omega)⟩ hH (sj_Knil hK) (Nat.le_of_ble_eq_true rfl) (Nat.le_of_ble_eq_true rfl) dX7_finishCase_47
set_option maxHeartbeats 2000000 in
set_option maxRecDepth 100000 in
theorem k_endIf (l : Launch) (D : va_G) (g : Nat → Nat) (ka : Nat → ClassId) (ad : Nat → Nat) (i : Nat → Nat → Int32) (r : Nat → Nat → Nat) (L : Nat → Nat → Int64) (d : Nat → Nat → UInt64)  (hO : OkI i) (hR : RS r) (sz : Nat) (hev : (i 23 10).toInt ≤ 2000000000) : Met l yX7_endIfNothingIsLeft wsX7_endIfNothingIsLeft ({ frames := 1, cells := 0, slots := 0, locals := 25 }) (va_Pc [.ref (g 23)] (sj_B D (hwc g ka i r L d) (hT ka) sz (gx ad (va_A (hwc g ka i r L d) sz)))) (sj_Qv (S := (Nat → Nat → Int32)) D (fun u => OkI u ∧ (∀ a, ¬ (a = 23 ∨ a = 29) → u a = i a) ∧ ((((i 23 6).toInt < (i 23 4).toInt ∧ (u 23 8).toInt = (i 23 8).toInt ∧ (u 23 10).toInt = (i 23 10).toInt) ∨ ((i 23 4).toInt ≤ (i 23 6).toInt ∧ (u 23 8).toInt = 0 ∧ (u 23 10).toInt = (i 23 10).toInt + 1)) ∧ (u 23 1).toInt = (i 23 1).toInt ∧ (u 23 2).toInt = (i 23 2).toInt ∧ (u 23 4).toInt = (i 23 4).toInt ∧ (u 23 5).toInt = (i 23 5).toInt ∧ (u 23 6).toInt = (i 23 6).toInt)) (fun u => hwc g ka u r L d) (fun _ => []) (va_A (hwc g ka i r L d) sz)) 0 0 (va_A (hwc g ka i r L d) sz) := by
  refine x_met (Ex := gx ad) (cc := cX7_endIfNothingIsLeft) (maxL := 3) (ret := none) (by decide) rfl (Nat.le_of_ble_eq_true rfl) ?_
  intro p e s m below meth c A ls hx hb hr hml hts hown hlocks hA hS hH hK hE hl
  have hown : s.vm.findClass RX7 = some m.cls := hown
  have in7 : ∀ w ∈ wsX70, w ∈ wsX7_endIfNothingIsLeft := (fun _ h => (List.mem_cons_of_mem _ (List.mem_append_left _ (List.mem_append_right _ h))))
  have in10 : ∀ w ∈ wsX100, w ∈ wsX7_endIfNothingIsLeft := (fun _ h => (List.mem_cons_of_mem _ (List.mem_append_right _ h)))
  have wd0 := hts (.fieldLink RX7 42 "StoryDesk$Run" "over" "I") (List.mem_cons_of_mem _ (List.mem_append_left _ (List.mem_append_left _ lm0)))
  have wd1 := hts (.fieldLink RX7 36 "StoryDesk$Run" "queued" "I") (List.mem_cons_of_mem _ (List.mem_append_left _ (List.mem_append_left _ lm1)))
  have wd2 := hts (.fieldLink RX7 11 "StoryDesk$Run" "workers" "[LStoryDesk$Worker;") (List.mem_cons_of_mem _ (List.mem_append_left _ (List.mem_append_left _ lm2)))
  have wd3 := hts (.fieldLink RX7 48 "StoryDesk$Run" "underWay" "Z") (List.mem_cons_of_mem _ (List.mem_append_left _ (List.mem_append_left _ lm4)))
  have wd4 := hts (.fieldLink RX7 45 "StoryDesk$Run" "worst" "I") (List.mem_cons_of_mem _ (List.mem_append_left _ (List.mem_append_left _ lm5)))
  have wd5 := hts (.fieldLink RX7 52 "StoryDesk$Worker" "waitedInRun" "I") (List.mem_cons_of_mem _ (List.mem_append_left _ (List.mem_append_left _ lm3)))
  have hl : lv_has ls 3 [(0, .ref (g 23))] := hl
  have hK : va_K D vwCl (hT ka) s := hK
  refine lv_aload_n hx hb dX7_endIfNothingIsLeft_0 rfl (lv_at hl 0 rfl) ?_
  have bx_1 : (0 : Int) ≤ (i 23 6).toInt ∧ (i 23 6).toInt ≤ 24 := hO 23 6
  refine h_geti (ci := 7) (C := RX7) (F := TX7) (N := 11) hx hb hts in7 hown hK hH (by decide) (rfl : kd 23 = 7) (by decide) rfl 6 (by decide) wd0 (fun _ h9 => h9) (by decide) rfl dX7_endIfNothingIsLeft_1 ?_
  refine lv_aload_n hx hb dX7_endIfNothingIsLeft_4 rfl (lv_at hl 0 rfl) ?_
  have bx_2 : (0 : Int) ≤ (i 23 4).toInt ∧ (i 23 4).toInt ≤ 24 := hO 23 4
  refine h_geti (ci := 7) (C := RX7) (F := TX7) (N := 11) hx hb hts in7 hown hK hH (by decide) (rfl : kd 23 = 7) (by decide) rfl 4 (by decide) wd1 (fun _ h9 => h9) (by decide) rfl dX7_endIfNothingIsLeft_5 ?_
  refine lv_icmp_ge (tgt := 12) hx hb dX7_endIfNothingIsLeft_8 (by decide) (fun c_3 => ?_) (fun c_3 => ?_)
  · skip
    have h_4 := s_le (rfl : (i 23 4).toInt = _) (rfl : (i 23 6).toInt = _) c_3
    refine lv_iconst (v := 0) hx hb dX7_endIfNothingIsLeft_12 (by decide) ?_
    refine lv_istore_n (lv' := [(1, .int 0), (0, .ref (g 23))]) hx hb dX7_endIfNothingIsLeft_13 rfl hl (by decide) rfl (fun ls hl => ?_)
    refine lv_iconst (v := 0) hx hb dX7_endIfNothingIsLeft_14 (by decide) ?_
    refine lv_istore_n (lv' := [(2, .int 0), (1, .int 0), (0, .ref (g 23))]) hx hb dX7_endIfNothingIsLeft_15 rfl hl (by decide) rfl (fun ls hl => ?_)
    -- loop at 16
    have lp_5 : ∀ (fuel_lp_5 : Nat) (t : Int32) (f : Int32) (H : Heap) (locs : List Loc) (ls : Array Slot), (3 - f.toInt).toNat < fuel_lp_5 → (0 : Int) ≤ f.toInt ∧ f.toInt ≤ 3 → lv_has ls 3 [(2, .int f), (1, .int t), (0, .ref (g 23))] → sj_H D A (hwc g ka i r L d) H → va_S A s.heap H locs → W p l e (headSpec wsX7_endIfNothingIsLeft ({ frames := 1, cells := 0, slots := 0, locals := 25 })).room s m ([.ref (g 23)] : List Value).toArray below meth c H locs 0 0 (MQ below (sj_Qv (S := (Nat → Nat → Int32)) D (fun u => OkI u ∧ (∀ a, ¬ (a = 23 ∨ a = 29) → u a = i a) ∧ ((((i 23 6).toInt < (i 23 4).toInt ∧ (u 23 8).toInt = (i 23 8).toInt ∧ (u 23 10).toInt = (i 23 10).toInt) ∨ ((i 23 4).toInt ≤ (i 23 6).toInt ∧ (u 23 8).toInt = 0 ∧ (u 23 10).toInt = (i 23 10).toInt + 1)) ∧ (u 23 1).toInt = (i 23 1).toInt ∧ (u 23 2).toInt = (i 23 2).toInt ∧ (u 23 4).toInt = (i 23 4).toInt ∧ (u 23 5).toInt = (i 23 5).toInt ∧ (u 23 6).toInt = (i 23 6).toInt)) (fun u => hwc g ka u r L d) (fun _ => []) A) ([.ref (g 23)] : List Value).toArray s 0 0 A) (F0 m 16 ls []) := by
      intro fuel_lp_5
      induction fuel_lp_5 with
      | zero => intros; omega
      | succ fuel_lp_5 ih_lp_5 =>
        intro t f H locs ls hm hr_f hl hH hS
        have hg_6 := s_rng t
        refine lv_iload_n hx hb dX7_endIfNothingIsLeft_16 rfl (lv_at hl 0 rfl) ?_
        refine lv_aload_n hx hb dX7_endIfNothingIsLeft_17 rfl (lv_at hl 2 rfl) ?_
        refine h_getr (ci := 7) (C := RX7) (F := TX7) (N := 11) hx hb hts in7 hown hK hH (by decide) (rfl : kd 23 = 7) (by decide) rfl 0 (by decide) wd2 (fun _ h9 => h9) (by decide) rfl (t := 24) (hR 23 0 rfl) (by decide) dX7_endIfNothingIsLeft_18 ?_
        refine h_alen (v := 3) hx hb hK hH (by decide) (rfl : kd 24 = 28) (by decide) (by rw [(rfl : ln 24 = 3)]; rfl) dX7_endIfNothingIsLeft_21 ?_
        refine lv_icmp_ge (tgt := 43) hx hb dX7_endIfNothingIsLeft_22 (by decide) (fun c_7 => ?_) (fun c_7 => ?_)
        · skip
          have h_8 := s_le (show (3 : Int32).toInt = 3 from rfl) (rfl : f.toInt = _) c_7
          refine lv_aload_n hx hb dX7_endIfNothingIsLeft_43 rfl (lv_at hl 2 rfl) ?_
          refine lv_iconst (v := 0) hx hb dX7_endIfNothingIsLeft_44 (by decide) ?_
          have hO_9 := okp hO (n := 23) (k := 8) (v := 0) (show (0 : Int) ≤ (0 : Int32).toInt ∧ (0 : Int32).toInt ≤ 1 from ⟨by decide, by decide⟩)
          refine h_puti (ty := .boolean) (ci := 7) (C := RX7) (F := TX7) (N := 11) hx hb hts in7 tyX7 tyX7_ok nmX7 hown hK hH hS (by decide) (rfl : kd 23 = 7) (by decide) rfl 8 (by decide) wd3 (fun _ h9 => h9) rfl (by decide +kernel) (by decide +kernel) (by decide +kernel) (by decide) rfl dX7_endIfNothingIsLeft_45 (fun H locs hH hS => ?_)
          refine lv_aload_n hx hb dX7_endIfNothingIsLeft_48 rfl (lv_at hl 2 rfl) ?_
          refine lv_iconst (v := 5) hx hb dX7_endIfNothingIsLeft_49 (by decide) ?_
          refine lv_aload_n hx hb dX7_endIfNothingIsLeft_50 rfl (lv_at hl 2 rfl) ?_
          have bx_10 : (0 : Int) ≤ (i 23 7).toInt ∧ (i 23 7).toInt ≤ 5 := hO 23 7
          refine h_geti (ci := 7) (C := RX7) (F := TX7) (N := 11) hx hb hts in7 hown hK hH (by decide) (rfl : kd 23 = 7) (by decide) rfl 7 (by decide) wd4 (fun _ h9 => h9) (by decide) rfl dX7_endIfNothingIsLeft_51 ?_
          refine sj_i (y := (i 23 7)) (up2_k _ _ (by decide)) ?_
          refine lv_iload_n hx hb dX7_endIfNothingIsLeft_54 rfl (lv_at hl 1 rfl) ?_
          refine lv_iconst (v := 0) hx hb dX7_endIfNothingIsLeft_55 (by decide) ?_
          have hl_11 : (5 : Int32).toInt = 5 := rfl
          have hl_12 : (0 : Int32).toInt = 0 := rfl
          have hw_13 : ((up2 i 23 8 0) 23 1).toInt = ((i 23 1) : Int32).toInt := congrArg Int32.toInt ((up2_k _ _ (by decide)))
          have hw_14 : ((up2 i 23 8 0) 23 2).toInt = ((i 23 2) : Int32).toInt := congrArg Int32.toInt ((up2_k _ _ (by decide)))
          have hw_15 : ((up2 i 23 8 0) 23 4).toInt = ((i 23 4) : Int32).toInt := congrArg Int32.toInt ((up2_k _ _ (by decide)))
          have hw_16 : ((up2 i 23 8 0) 23 5).toInt = ((i 23 5) : Int32).toInt := congrArg Int32.toInt ((up2_k _ _ (by decide)))
          have hw_17 : ((up2 i 23 8 0) 23 6).toInt = ((i 23 6) : Int32).toInt := congrArg Int32.toInt ((up2_k _ _ (by decide)))
          have hw_18 : ((up2 i 23 8 0) 23 7).toInt = ((i 23 7) : Int32).toInt := congrArg Int32.toInt ((up2_k _ _ (by decide)))
          have hw_19 : ((up2 i 23 8 0) 23 8).toInt = (0 : Int32).toInt := congrArg Int32.toInt ((up2_at _ _ _ _))
          have hw_20 : ((up2 i 23 8 0) 23 10).toInt = ((i 23 10) : Int32).toInt := congrArg Int32.toInt ((up2_k _ _ (by decide)))
          refine x_callv (va_runV (As := [.int 5, .int (i 23 7), .int t, .int 0]) (rest := []) ⟨hx, hb, hml, hown, hts⟩ (k_tell l D g ka ad (up2 i 23 8 0) r L d 5 (i 23 7) t 0 hO_9 hR H.size (by first | omega | decide)) (cwV 4 hts gX7_endIfNothingIsLeft_X7_tell rfl rfl rfl (by decide +kernel) ⟨(Nat.le_of_ble_eq_true rfl), (Nat.le_of_ble_eq_true rfl)⟩) (x_preV (q := (RX7, TX7, 11)) hH hK (q_obj (by decide) (rfl : kd 23 = 7) (by decide)) rfl gxb (gxw hE hS (x_F hH hS hA))) rfl rfl hl.1 rfl (lv_room (Nat.le_of_ble_eq_true rfl)) dX7_endIfNothingIsLeft_56 ⟨(Nat.le_of_ble_eq_true rfl), (Nat.le_of_ble_eq_true rfl)⟩) hH hS hA rfl rfl (fun im_23 H locs hw_22 hH hS => ?_)
          have hH : sj_H D A (hwc g ka im_23 r L d) H := hH
          obtain ⟨hO_25, hfr_24, he_26⟩ := hw_22
          exact sj_vret hx hb hr hlocks hS im_23 ⟨hO_25, (fun a ha => ((hfr_24 a (by omega)).trans (up2_n _ _ (by omega)))), (by refine ⟨?_, ?_, ?_, ?_, ?_, ?_⟩ <;> omega)⟩ hH (sj_Knil hK) (Nat.le_of_ble_eq_true rfl) (Nat.le_of_ble_eq_true rfl) dX7_endIfNothingIsLeft_59
        · skip
          have h_27 := s_nle (show (3 : Int32).toInt = 3 from rfl) (rfl : f.toInt = _) c_7
          refine lv_iload_n hx hb dX7_endIfNothingIsLeft_25 rfl (lv_at hl 1 rfl) ?_
          refine lv_aload_n hx hb dX7_endIfNothingIsLeft_26 rfl (lv_at hl 2 rfl) ?_
          refine h_getr (ci := 7) (C := RX7) (F := TX7) (N := 11) hx hb hts in7 hown hK hH (by decide) (rfl : kd 23 = 7) (by decide) rfl 0 (by decide) wd2 (fun _ h9 => h9) (by decide) rfl (t := 24) (hR 23 0 rfl) (by decide) dX7_endIfNothingIsLeft_27 ?_
          refine lv_iload_n hx hb dX7_endIfNothingIsLeft_30 rfl (lv_at hl 0 rfl) ?_
          obtain ⟨j_28, ej_28, hj_28⟩ : ∃ j : Nat, (f).toNatClampNeg = j ∧ (j : Int) = f.toInt := ⟨_, rfl, by rw [s_cl (rfl : f.toInt = _)]; omega⟩
          have lj_28 : j_28 < 3 := by omega
          refine h_qald hx hb hK hH (by decide) (rfl : kd 24 = 28) (by decide) rfl (s_vin (N := 3) (rfl : f.toInt = _) (rfl : ln 24 = 3) (by omega) (by omega)) (t := (25 + 1 * j_28)) (by rw [ej_28]; exact (hR 24 j_28 rfl)) (lt_nK (by omega)) dX7_endIfNothingIsLeft_31 ?_
          refine h_geti (ci := 10) (C := RX10) (F := TX10) (N := 8) hx hb hts in10 hown hK hH (lt_nK (by omega)) (kd_wk lj_28) (by decide) rfl 7 (by decide) wd5 (fun _ h9 => h9) (by decide) rfl dX7_endIfNothingIsLeft_32 ?_
          refine lv_iadd hx hb dX7_endIfNothingIsLeft_35 ?_
          obtain ⟨z_29, ez_29⟩ : ∃ z, t + (i (25 + 1 * j_28) 7) = z := ⟨_, rfl⟩
          refine sj_i ez_29 ?_
          refine lv_istore_n (lv' := [(1, .int z_29), (2, .int f), (0, .ref (g 23))]) hx hb dX7_endIfNothingIsLeft_36 rfl hl (by decide) rfl (fun ls hl => ?_)
          obtain ⟨z_30, ez_30, hz_30⟩ := s_add (rfl : f.toInt = _) (show (1 : Int32).toInt = 1 from rfl) (by omega) (by omega)
          refine lv_iinc (v := z_30) (lv' := [(2, .int z_30), (1, .int z_29), (0, .ref (g 23))]) hx hb dX7_endIfNothingIsLeft_37 hl (k := 1) rfl ez_30 (by decide) rfl (fun ls hl => ?_)
          refine lv_goto (tgt := 16) hx hb dX7_endIfNothingIsLeft_40 (by decide) ?_
          exact ih_lp_5 z_29 z_30 _ _ ls (by omega) (by omega) (lv_sub hl [0, 1, 2] rfl) hH hS
    have hl_31 : (0 : Int32).toInt = 0 := rfl
    have hl_32 : (0 : Int32).toInt = 0 := rfl
    exact lp_5 _ 0 0 _ _ ls (Nat.lt_succ_self _) (by omega) (lv_sub hl [0, 1, 2] rfl) hH hS
  · skip
    have h_33 := s_nle (rfl : (i 23 4).toInt = _) (rfl : (i 23 6).toInt = _) c_3
    exact sj_vret hx hb hr hlocks hS i ⟨hO, (fun a ha => rfl), (by refine ⟨?_, ?_, ?_, ?_, ?_, ?_⟩ <;> omega)⟩ hH (sj_Knil hK) (Nat.le_of_ble_eq_true rfl) (Nat.le_of_ble_eq_true rfl) dX7_endIfNothingIsLeft_11
