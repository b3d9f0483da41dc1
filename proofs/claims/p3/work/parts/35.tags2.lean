theorem dX9_holds_0 : decode cX9_holds 0 = .ok (.aload_n 0, 1) := by decide +kernel
theorem dX9_holds_1 : decode cX9_holds 1 = .ok (.iconst 0, 1) := by decide +kernel
theorem dX9_holds_2 : decode cX9_holds 2 = .ok (.putfield 33, 3) := by decide +kernel
theorem dX9_holds_5 : decode cX9_holds 5 = .ok (.aload_n 0, 1) := by decide +kernel
theorem dX9_holds_6 : decode cX9_holds 6 = .ok (.iconst 1, 1) := by decide +kernel
theorem dX9_holds_7 : decode cX9_holds 7 = .ok (.putfield 29, 3) := by decide +kernel
theorem dX9_holds_10 : decode cX9_holds 10 = .ok (.aload_n 0, 1) := by decide +kernel
theorem dX9_holds_11 : decode cX9_holds 11 = .ok (.getfield 13, 3) := by decide +kernel
theorem dX9_holds_14 : decode cX9_holds 14 = .ok (.ifCond .eq 12, 3) := by decide +kernel
theorem dX9_holds_26 : decode cX9_holds 26 = .ok (.iconst 1, 1) := by decide +kernel
theorem dX9_holds_27 : decode cX9_holds 27 = .ok (.goto 4, 3) := by decide +kernel
theorem dX9_holds_31 : decode cX9_holds 31 = .ok (.ireturn, 1) := by decide +kernel
theorem dX9_holds_17 : decode cX9_holds 17 = .ok (.aload_n 0, 1) := by decide +kernel
theorem dX9_holds_18 : decode cX9_holds 18 = .ok (.iload_n 1, 1) := by decide +kernel
theorem dX9_holds_19 : decode cX9_holds 19 = .ok (.iconst 0, 1) := by decide +kernel
theorem dX9_holds_20 : decode cX9_holds 20 = .ok (.invokevirtual 36, 3) := by decide +kernel
theorem dX9_holds_23 : decode cX9_holds 23 = .ok (.ifCond .eq 7, 3) := by decide +kernel
theorem dX9_holds_30 : decode cX9_holds 30 = .ok (.iconst 0, 1) := by decide +kernel
theorem dX9_take_0 : decode cX9_take 0 = .ok (.aload_n 0, 1) := by decide +kernel
theorem dX9_take_1 : decode cX9_take 1 = .ok (.iconst 0, 1) := by decide +kernel
theorem dX9_take_2 : decode cX9_take 2 = .ok (.putfield 13, 3) := by decide +kernel
theorem dX9_take_5 : decode cX9_take 5 = .ok (.aload_n 1, 1) := by decide +kernel
theorem dX9_take_6 : decode cX9_take 6 = .ok (.getfield 17, 3) := by decide +kernel
theorem dX9_take_9 : decode cX9_take 9 = .ok (.bipush 40, 2) := by decide +kernel
theorem dX9_take_11 : decode cX9_take 11 = .ok (.if_icmp .le 5, 3) := by decide +kernel
theorem dX9_take_16 : decode cX9_take 16 = .ok (.iconst 0, 1) := by decide +kernel
theorem dX9_take_17 : decode cX9_take 17 = .ok (.istore_n 2, 1) := by decide +kernel
theorem dX9_take_18 : decode cX9_take 18 = .ok (.iload_n 2, 1) := by decide +kernel
theorem dX9_take_19 : decode cX9_take 19 = .ok (.aload_n 1, 1) := by decide +kernel
theorem dX9_take_20 : decode cX9_take 20 = .ok (.getfield 17, 3) := by decide +kernel
theorem dX9_take_23 : decode cX9_take 23 = .ok (.if_icmp .ge 45, 3) := by decide +kernel
theorem dX9_take_68 : decode cX9_take 68 = .ok (.aload_n 0, 1) := by decide +kernel
theorem dX9_take_69 : decode cX9_take 69 = .ok (.iconst 0, 1) := by decide +kernel
theorem dX9_take_70 : decode cX9_take 70 = .ok (.invokevirtual 25, 3) := by decide +kernel
theorem dX9_take_73 : decode cX9_take 73 = .ok (.pop, 1) := by decide +kernel
theorem dX9_take_74 : decode cX9_take 74 = .ok (.aload_n 0, 1) := by decide +kernel
theorem dX9_take_75 : decode cX9_take 75 = .ok (.getfield 13, 3) := by decide +kernel
theorem dX9_take_78 : decode cX9_take 78 = .ok (.ifCond .eq 21, 3) := by decide +kernel
theorem dX9_take_99 : decode cX9_take 99 = .ok (.iconst 1, 1) := by decide +kernel
theorem dX9_take_100 : decode cX9_take 100 = .ok (.goto 4, 3) := by decide +kernel
theorem dX9_take_104 : decode cX9_take 104 = .ok (.ireturn, 1) := by decide +kernel
theorem dX9_take_81 : decode cX9_take 81 = .ok (.aload_n 0, 1) := by decide +kernel
theorem dX9_take_82 : decode cX9_take 82 = .ok (.getfield 29, 3) := by decide +kernel
theorem dX9_take_85 : decode cX9_take 85 = .ok (.ifCond .eq 18, 3) := by decide +kernel
theorem dX9_take_103 : decode cX9_take 103 = .ok (.iconst 0, 1) := by decide +kernel
theorem dX9_take_88 : decode cX9_take 88 = .ok (.aload_n 0, 1) := by decide +kernel
theorem dX9_take_89 : decode cX9_take 89 = .ok (.getfield 33, 3) := by decide +kernel
theorem dX9_take_92 : decode cX9_take 92 = .ok (.aload_n 0, 1) := by decide +kernel
theorem dX9_take_93 : decode cX9_take 93 = .ok (.getfield 13, 3) := by decide +kernel
theorem dX9_take_96 : decode cX9_take 96 = .ok (.if_icmp .ne 7, 3) := by decide +kernel
theorem dX9_take_26 : decode cX9_take 26 = .ok (.aload_n 1, 1) := by decide +kernel
theorem dX9_take_27 : decode cX9_take 27 = .ok (.getfield 22, 3) := by decide +kernel
theorem dX9_take_30 : decode cX9_take 30 = .ok (.iload_n 2, 1) := by decide +kernel
theorem dX9_take_31 : decode cX9_take 31 = .ok (.caload, 1) := by decide +kernel
theorem dX9_take_32 : decode cX9_take 32 = .ok (.bipush 32, 2) := by decide +kernel
theorem dX9_take_34 : decode cX9_take 34 = .ok (.if_icmp .eq 28, 3) := by decide +kernel
theorem dX9_take_62 : decode cX9_take 62 = .ok (.iinc 2 1, 3) := by decide +kernel
theorem dX9_take_65 : decode cX9_take 65 = .ok (.goto (-47), 3) := by decide +kernel
theorem dX9_take_37 : decode cX9_take 37 = .ok (.aload_n 0, 1) := by decide +kernel
theorem dX9_take_38 : decode cX9_take 38 = .ok (.getfield 9, 3) := by decide +kernel
theorem dX9_take_41 : decode cX9_take 41 = .ok (.aload_n 0, 1) := by decide +kernel
theorem dX9_take_42 : decode cX9_take 42 = .ok (.getfield 13, 3) := by decide +kernel
theorem dX9_take_45 : decode cX9_take 45 = .ok (.aload_n 1, 1) := by decide +kernel
theorem dX9_take_46 : decode cX9_take 46 = .ok (.getfield 22, 3) := by decide +kernel
theorem dX9_take_49 : decode cX9_take 49 = .ok (.iload_n 2, 1) := by decide +kernel
theorem dX9_take_50 : decode cX9_take 50 = .ok (.caload, 1) := by decide +kernel
theorem dX9_take_51 : decode cX9_take 51 = .ok (.castore, 1) := by decide +kernel
theorem dX9_take_52 : decode cX9_take 52 = .ok (.aload_n 0, 1) := by decide +kernel
theorem dX9_take_53 : decode cX9_take 53 = .ok (.dup, 1) := by decide +kernel
theorem dX9_take_54 : decode cX9_take 54 = .ok (.getfield 13, 3) := by decide +kernel
theorem dX9_take_57 : decode cX9_take 57 = .ok (.iconst 1, 1) := by decide +kernel
theorem dX9_take_58 : decode cX9_take 58 = .ok (.iadd, 1) := by decide +kernel
theorem dX9_take_59 : decode cX9_take 59 = .ok (.putfield 13, 3) := by decide +kernel
theorem dX9_take_14 : decode cX9_take 14 = .ok (.iconst 0, 1) := by decide +kernel
theorem dX9_take_15 : decode cX9_take 15 = .ok (.ireturn, 1) := by decide +kernel
theorem gX9_holds_X9_anyOf : GoodIn wsX9_holds (wsV RX9 36 RX9 yX9_anyOf wsX9_anyOf) := goodIn_app (goodIn_sub (List.forall_mem_cons.mpr ⟨(List.mem_cons_of_mem _ (List.mem_append_left _ lm3)), List.forall_mem_cons.mpr ⟨(List.mem_cons_of_mem _ (List.mem_append_left _ lm4)), List.forall_mem_cons.mpr ⟨(List.mem_cons_of_mem _ (List.mem_append_left _ lm5)), List.forall_mem_cons.mpr ⟨(List.mem_cons_of_mem _ (List.mem_append_left _ lm6)), (fun _ h => absurd h List.not_mem_nil)⟩⟩⟩⟩) (by decide +kernel)) (goodIn_sub (by unfold wsX9_anyOf; exact List.forall_mem_cons.mpr ⟨(List.mem_cons_of_mem _ (List.mem_append_left _ lm7)), List.forall_mem_append.mpr ⟨List.forall_mem_cons.mpr ⟨(List.mem_cons_of_mem _ (List.mem_append_left _ lm0)), List.forall_mem_cons.mpr ⟨(List.mem_cons_of_mem _ (List.mem_append_left _ lm2)), List.forall_mem_cons.mpr ⟨(List.mem_cons_of_mem _ (List.mem_append_left _ lm8)), List.forall_mem_cons.mpr ⟨(List.mem_cons_of_mem _ (List.mem_append_left _ lm9)), List.forall_mem_cons.mpr ⟨(List.mem_cons_of_mem _ (List.mem_append_left _ lm10)), List.forall_mem_cons.mpr ⟨(List.mem_cons_of_mem _ (List.mem_append_left _ lm11)), List.forall_mem_cons.mpr ⟨(List.mem_cons_of_mem _ (List.mem_append_left _ lm6)), List.forall_mem_cons.mpr ⟨(List.mem_cons_of_mem _ (List.mem_append_left _ lm12)), List.forall_mem_cons.mpr ⟨(List.mem_cons_of_mem _ (List.mem_append_left _ lm13)), List.forall_mem_cons.mpr ⟨(List.mem_cons_of_mem _ (List.mem_append_left _ lm14)), List.forall_mem_cons.mpr ⟨(List.mem_cons_of_mem _ (List.mem_append_left _ lm15)), List.forall_mem_cons.mpr ⟨(List.mem_cons_of_mem _ (List.mem_append_left _ lm16)), List.forall_mem_cons.mpr ⟨(List.mem_cons_of_mem _ (List.mem_append_left _ lm1)), List.forall_mem_cons.mpr ⟨(List.mem_cons_of_mem _ (List.mem_append_left _ lm3)), List.forall_mem_cons.mpr ⟨(List.mem_cons_of_mem _ (List.mem_append_left _ lm4)), List.forall_mem_cons.mpr ⟨(List.mem_cons_of_mem _ (List.mem_append_left _ lm5)), (fun _ h => absurd h List.not_mem_nil)⟩⟩⟩⟩⟩⟩⟩⟩⟩⟩⟩⟩⟩⟩⟩⟩, (fun _ h => (List.mem_cons_of_mem _ (List.mem_append_right _ h)))⟩⟩) gw_X9_anyOf)
theorem gw_X9_holds : wsX9_holds.all goodWord = true := by decide +kernel
theorem gX9_take_X9_holds : GoodIn wsX9_take (wsV RX9 25 RX9 yX9_holds wsX9_holds) := goodIn_app (goodIn_sub (List.forall_mem_cons.mpr ⟨(List.mem_cons_of_mem _ (List.mem_append_left _ (List.mem_append_left _ lm6))), List.forall_mem_cons.mpr ⟨(List.mem_cons_of_mem _ (List.mem_append_left _ (List.mem_append_left _ lm7))), List.forall_mem_cons.mpr ⟨(List.mem_cons_of_mem _ (List.mem_append_left _ (List.mem_append_left _ lm8))), List.forall_mem_cons.mpr ⟨(List.mem_cons_of_mem _ (List.mem_append_left _ (List.mem_append_left _ lm9))), (fun _ h => absurd h List.not_mem_nil)⟩⟩⟩⟩) (by decide +kernel)) (goodIn_sub (by unfold wsX9_holds; exact List.forall_mem_cons.mpr ⟨(List.mem_cons_of_mem _ (List.mem_append_left _ (List.mem_append_left _ lm10))), List.forall_mem_append.mpr ⟨List.forall_mem_cons.mpr ⟨(List.mem_cons_of_mem _ (List.mem_append_left _ (List.mem_append_left _ lm5))), List.forall_mem_cons.mpr ⟨(List.mem_cons_of_mem _ (List.mem_append_left _ (List.mem_append_left _ lm4))), List.forall_mem_cons.mpr ⟨(List.mem_cons_of_mem _ (List.mem_append_left _ (List.mem_append_left _ lm0))), List.forall_mem_cons.mpr ⟨(List.mem_cons_of_mem _ (List.mem_append_left _ (List.mem_append_left _ lm11))), List.forall_mem_cons.mpr ⟨(List.mem_cons_of_mem _ (List.mem_append_left _ (List.mem_append_left _ lm12))), List.forall_mem_cons.mpr ⟨(List.mem_cons_of_mem _ (List.mem_append_left _ (List.mem_append_left _ lm13))), List.forall_mem_cons.mpr ⟨(List.mem_cons_of_mem _ (List.mem_append_left _ (List.mem_append_left _ lm9))), List.forall_mem_cons.mpr ⟨(List.mem_cons_of_mem _ (List.mem_append_left _ (List.mem_append_left _ lm14))), List.forall_mem_cons.mpr ⟨(List.mem_cons_of_mem _ (List.mem_append_left _ (List.mem_append_left _ lm3))), List.forall_mem_cons.mpr ⟨(List.mem_cons_of_mem _ (List.mem_append_left _ (List.mem_append_left _ lm15))), List.forall_mem_cons.mpr ⟨(List.mem_cons_of_mem _ (List.mem_append_left _ (List.mem_append_left _ lm16))), List.forall_mem_cons.mpr ⟨(List.mem_cons_of_mem _ (List.mem_append_left _ (List.mem_append_left _ lm17))), List.forall_mem_cons.mpr ⟨(List.mem_cons_of_mem _ (List.mem_append_left _ (List.mem_append_left _ lm18))), List.forall_mem_cons.mpr ⟨(List.mem_cons_of_mem _ (List.mem_append_left _ (List.mem_append_left _ lm19))), List.forall_mem_cons.mpr ⟨(List.mem_cons_of_mem _ (List.mem_append_left _ (List.mem_append_left _ lm20))), List.forall_mem_cons.mpr ⟨(List.mem_cons_of_mem _ (List.mem_append_left _ (List.mem_append_left _ lm21))), List.forall_mem_cons.mpr ⟨(List.mem_cons_of_mem _ (List.mem_append_left _ (List.mem_append_left _ lm22))), (fun _ h => absurd h List.not_mem_nil)⟩⟩⟩⟩⟩⟩⟩⟩⟩⟩⟩⟩⟩⟩⟩⟩⟩, (fun _ h => (List.mem_cons_of_mem _ (List.mem_append_left _ (List.mem_append_right _ h))))⟩⟩) gw_X9_holds)
theorem k_anyT (l : Launch) (D : va_G) (g : Nat → Nat) (ka : Nat → ClassId) (ad : Nat → Nat) (i : Nat → Nat → Int32) (r : Nat → Nat → Nat) (L : Nat → Nat → Int64) (d : Nat → Nat → UInt64) (j : Nat) (ff : Nat → Int32) (n : Nat) (a : Nat) (x : Int32) (hO : OkI i) (hR : RS r) (sz : Nat) (hj : j < 11) (hff : i (357 + 2 * j + 1) = ff) (hn : (i (357 + 2 * j) 1).toInt = (n : Int)) (hn40 : n ≤ 40) (ha : (i (357 + 2 * j) 2).toInt = (a : Int)) (han : a ≤ n) (hNB : ∀ k : Nat, k < n → (ff k).toInt ≠ 32) : Met l yX9_anyOf wsX9_anyOf ({ frames := 122, cells := 0, slots := 0, locals := 4880 }) (va_Pc [.ref (g (357 + 2 * j)), .int x, .int 0] (sj_B D (hwc g ka i r L d) (hT ka) sz (gx ad (va_A (hwc g ka i r L d) sz)))) (sj_Qi (S := (Nat → Nat → Int32)) D (fun v u => OkI u ∧ (∀ a, ¬ (a = 357 + 2 * j) → u a = i a) ∧ ((0 : Int) ≤ v.toInt ∧ v.toInt ≤ 1) ∧ ((u (357 + 2 * j) 1).toInt = (i (357 + 2 * j) 1).toInt ∧ (i (357 + 2 * j) 2).toInt ≤ (u (357 + 2 * j) 2).toInt ∧ (u (357 + 2 * j) 2).toInt ≤ (n : Int) + 41 - (0 : Int32).toInt ∧ ((i (357 + 2 * j) 3).toInt = 0 → (u (357 + 2 * j) 3).toInt = 0)) ∧ (tgP (i (357 + 2 * j) 3).toInt ((∃ b : Nat, (u (357 + 2 * j) 3).toInt = 1 ∧ (u (357 + 2 * j) 2).toInt = (b : Int) ∧ a < b ∧ b ≤ n ∧ tgR (tb x) 2 ff n a b (decide (v.toInt = 1)) ∧ (n ≤ b ∨ ((ff b).toInt ≠ 38 ∧ (ff b).toInt ≠ 124))) ∨ ((u (357 + 2 * j) 3).toInt = 0 ∧ tgX (tb x) 2 ff n a)))) (fun u => hwc g ka u r L d) (fun _ => []) (va_A (hwc g ka i r L d) sz)) 0 0 (va_A (hwc g ka i r L d) sz) := anyS_all l D g ka ad 40 i r L d j ff n a 40 x 0 hO hR sz hj hff hn hn40 ha han (fun _ => Int.natCast_nonneg a) (by decide) (by decide) hNB rfl
set_option maxHeartbeats 2000000 in
set_option maxRecDepth 100000 in
theorem k_holds (l : Launch) (D : va_G) (g : Nat → Nat) (ka : Nat → ClassId) (ad : Nat → Nat) (i : Nat → Nat → Int32) (r : Nat → Nat → Nat) (L : Nat → Nat → Int64) (d : Nat → Nat → UInt64) (j : Nat) (x : Int32) (hO : OkI i) (hR : RS r) (sz : Nat) (hj : j < 11) (hNB : ∀ k : Nat, k < (i (357 + 2 * j) 1).toInt.toNat → (i (357 + 2 * j + 1) k).toInt ≠ 32) : Met l yX9_holds wsX9_holds ({ frames := 123, cells := 0, slots := 0, locals := 4904 }) (va_Pc [.ref (g (357 + 2 * j)), .int x] (sj_B D (hwc g ka i r L d) (hT ka) sz (gx ad (va_A (hwc g ka i r L d) sz)))) (sj_Qi (S := (Nat → Nat → Int32)) D (fun v u => OkI u ∧ (∀ a, ¬ (a = 357 + 2 * j) → u a = i a) ∧ ((0 : Int) ≤ v.toInt ∧ v.toInt ≤ 1) ∧ ((u (357 + 2 * j) 1).toInt = (i (357 + 2 * j) 1).toInt ∧ ((i (357 + 2 * j) 1).toInt = 0 → v.toInt = 1)) ∧ (tgQ (i (357 + 2 * j) 1).toInt ((∀ b : Bool, tgV i j x = some b → v.toInt = (if b then 1 else 0)) ∧ (((u (357 + 2 * j) 3).toInt = 1 ∧ (u (357 + 2 * j) 2).toInt = (i (357 + 2 * j) 1).toInt) → tgV i j x ≠ none) ∧ (tgV i j x ≠ none → ((u (357 + 2 * j) 3).toInt = 1 ∧ (u (357 + 2 * j) 2).toInt = (i (357 + 2 * j) 1).toInt))))) (fun u => hwc g ka u r L d) (fun _ => []) (va_A (hwc g ka i r L d) sz)) 0 0 (va_A (hwc g ka i r L d) sz) := by
  refine x_met (Ex := gx ad) (cc := cX9_holds) (maxL := 2) (ret := (some .boolean)) (by decide) rfl (Nat.le_of_ble_eq_true rfl) ?_
  intro p e s m below meth c A ls hx hb hr hml hts hown hlocks hA hS hH hK hE hl
  have hown : s.vm.findClass RX9 = some m.cls := hown
  have in9 : ∀ w ∈ wsX90, w ∈ wsX9_holds := (fun _ h => (List.mem_cons_of_mem _ (List.mem_append_right _ h)))
  have wd0 := hts (.fieldLink RX9 33 "StoryDesk$TagExpression" "at" "I") (List.mem_cons_of_mem _ (List.mem_append_left _ lm0))
  have wd1 := hts (.fieldLink RX9 29 "StoryDesk$TagExpression" "formed" "Z") (List.mem_cons_of_mem _ (List.mem_append_left _ lm1))
  have wd2 := hts (.fieldLink RX9 13 "StoryDesk$TagExpression" "count" "I") (List.mem_cons_of_mem _ (List.mem_append_left _ lm2))
  have hl : lv_has ls 2 [(0, .ref (g (357 + 2 * j))), (1, .int x)] := hl
  have hK : va_K D vwCl (hT ka) s := hK
  have hg_1 := s_rng x
  have hbN : (0 : Int) ≤ (i (357 + 2 * j) 1).toInt ∧ (i (357 + 2 * j) 1).toInt ≤ 40 := by have h9 := hO (357 + 2 * j) 1; rw [bx_tag hj 1] at h9; exact h9
  refine lv_aload_n hx hb dX9_holds_0 rfl (lv_at hl 0 rfl) ?_
  refine lv_iconst (v := 0) hx hb dX9_holds_1 (by decide) ?_
  have hO_2 := okp hO (n := (357 + 2 * j)) (k := 2) (v := 0) (by rw [bx_tag hj 2]; exact (show (0 : Int) ≤ (0 : Int32).toInt ∧ (0 : Int32).toInt ≤ 127 from ⟨by decide, by decide⟩))
  refine h_puti (ty := .int) (ci := 9) (C := RX9) (F := TX9) (N := 4) hx hb hts in9 tyX9 tyX9_ok nmX9 hown hK hH hS (lt_nK (by omega)) (kd_tag hj) (by decide) rfl 2 (by decide) wd0 (fun _ h9 => h9) rfl (by decide +kernel) rfl rfl (by decide) rfl dX9_holds_2 (fun H locs hH hS => ?_)
  refine lv_aload_n hx hb dX9_holds_5 rfl (lv_at hl 0 rfl) ?_
  refine lv_iconst (v := 1) hx hb dX9_holds_6 (by decide) ?_
  have hO_3 := okp hO_2 (n := (357 + 2 * j)) (k := 3) (v := 1) (by rw [bx_tag hj 3]; exact (show (0 : Int) ≤ (1 : Int32).toInt ∧ (1 : Int32).toInt ≤ 1 from ⟨by decide, by decide⟩))
  refine h_puti (ty := .boolean) (ci := 9) (C := RX9) (F := TX9) (N := 4) hx hb hts in9 tyX9 tyX9_ok nmX9 hown hK hH hS (lt_nK (by omega)) (kd_tag hj) (by decide) rfl 3 (by decide) wd1 (fun _ h9 => h9) rfl (by decide +kernel) (by decide +kernel) (by decide +kernel) (by decide) rfl dX9_holds_7 (fun H locs hH hS => ?_)
  refine lv_aload_n hx hb dX9_holds_10 rfl (lv_at hl 0 rfl) ?_
  have bx_4 : (0 : Int) ≤ (i (357 + 2 * j) 1).toInt ∧ (i (357 + 2 * j) 1).toInt ≤ 40 := by have h9 := hO (357 + 2 * j) 1; rw [bx_tag hj 1] at h9; exact h9
  refine h_geti (ci := 9) (C := RX9) (F := TX9) (N := 4) hx hb hts in9 hown hK hH (lt_nK (by omega)) (kd_tag hj) (by decide) rfl 1 (by decide) wd2 (fun _ h9 => h9) (by decide) rfl dX9_holds_11 ?_
  refine sj_i (y := (i (357 + 2 * j) 1)) ((up2_k _ _ (by decide)).trans (up2_k _ _ (by decide))) ?_
  refine lv_if_eq (tgt := 26) hx hb dX9_holds_14 (by decide) (fun c_5 => ?_) (fun c_5 => ?_)
  · skip
    have h_6 := s_eq (rfl : (i (357 + 2 * j) 1).toInt = _) (show (0 : Int32).toInt = 0 from rfl) c_5
    refine lv_iconst (v := 1) hx hb dX9_holds_26 (by decide) ?_
    refine lv_goto (tgt := 31) hx hb dX9_holds_27 (by decide) ?_
    have hlv_7 : (1 : Int32).toInt = 1 := rfl
    have hz1 : (1 : Int32).toInt = 1 := rfl
    have hz0 : (0 : Int32).toInt = 0 := rfl
    have hw_8 : ((up2 (up2 i (357 + 2 * j) 2 0) (357 + 2 * j) 3 1) (357 + 2 * j) 1).toInt = ((i (357 + 2 * j) 1) : Int32).toInt := congrArg Int32.toInt (((up2_k _ _ (by decide)).trans (up2_k _ _ (by decide))))
    have hw_9 : ((up2 (up2 i (357 + 2 * j) 2 0) (357 + 2 * j) 3 1) (357 + 2 * j) 2).toInt = (0 : Int32).toInt := congrArg Int32.toInt (((up2_k _ _ (by decide)).trans (up2_at _ _ _ _)))
    have hw_10 : ((up2 (up2 i (357 + 2 * j) 2 0) (357 + 2 * j) 3 1) (357 + 2 * j) 3).toInt = (1 : Int32).toInt := congrArg Int32.toInt ((up2_at _ _ _ _))
    exact sj_zret hx hb hr hlocks (by decide +kernel) hS (up2 (up2 i (357 + 2 * j) 2 0) (357 + 2 * j) 3 1) ⟨hO_3, (fun a ha => ((up2_n _ _ (by omega)).trans (up2_n _ _ (by omega)))), ⟨by decide, by decide⟩, (by refine ⟨?_, ?_⟩ <;> omega), (fun h => absurd h (by omega))⟩ hH (sj_Knil hK) (Nat.le_of_ble_eq_true rfl) (Nat.le_of_ble_eq_true rfl) dX9_holds_31
  · skip
    have h_11 := s_ne (rfl : (i (357 + 2 * j) 1).toInt = _) (show (0 : Int32).toInt = 0 from rfl) c_5
    refine lv_aload_n hx hb dX9_holds_17 rfl (lv_at hl 0 rfl) ?_
    refine lv_iload_n hx hb dX9_holds_18 rfl (lv_at hl 1 rfl) ?_
    refine lv_iconst (v := 0) hx hb dX9_holds_19 (by decide) ?_
    have hl_12 : (0 : Int32).toInt = 0 := rfl
    have hz1 : (1 : Int32).toInt = 1 := rfl
    have hz0 : (0 : Int32).toInt = 0 := rfl
    have hw_13 : ((up2 (up2 i (357 + 2 * j) 2 0) (357 + 2 * j) 3 1) (357 + 2 * j) 1).toInt = ((i (357 + 2 * j) 1) : Int32).toInt := congrArg Int32.toInt (((up2_k _ _ (by decide)).trans (up2_k _ _ (by decide))))
    have hw_14 : ((up2 (up2 i (357 + 2 * j) 2 0) (357 + 2 * j) 3 1) (357 + 2 * j) 2).toInt = (0 : Int32).toInt := congrArg Int32.toInt (((up2_k _ _ (by decide)).trans (up2_at _ _ _ _)))
    have hw_15 : ((up2 (up2 i (357 + 2 * j) 2 0) (357 + 2 * j) 3 1) (357 + 2 * j) 3).toInt = (1 : Int32).toInt := congrArg Int32.toInt ((up2_at _ _ _ _))
    refine x_calli (va_runV (As := [.int x, .int 0]) (rest := []) ⟨hx, hb, hml, hown, hts⟩ (k_anyT l D g ka ad (up2 (up2 i (357 + 2 * j) 2 0) (357 + 2 * j) 3 1) r L d j (i (357 + 2 * j + 1)) ((i (357 + 2 * j) 1).toInt.toNat) 0 x hO_3 hR H.size (by first | omega | decide) ((up2_n _ _ (by omega)).trans (up2_n _ _ (by omega))) (by first | omega | decide) (by first | omega | decide) (by first | omega | decide) (by first | omega | decide) hNB) (cwV 2 hts gX9_holds_X9_anyOf rfl rfl rfl (by decide +kernel) ⟨(Nat.le_of_ble_eq_true rfl), (Nat.le_of_ble_eq_true rfl)⟩) (x_preV (q := (RX9, TX9, 4)) hH hK (q_obj (lt_nK (by omega)) (kd_tag hj) (by decide)) rfl gxb (gxw hE hS (x_F hH hS hA))) rfl rfl hl.1 rfl (lv_room (Nat.le_of_ble_eq_true rfl)) dX9_holds_20 ⟨(Nat.le_of_ble_eq_true rfl), (Nat.le_of_ble_eq_true rfl)⟩) hH hS hA rfl rfl (fun r_16 im_18 H locs hw_17 hH hS => ?_)
    have hH : sj_H D A (hwc g ka im_18 r L d) H := hH
    obtain ⟨hO_20, hfr_19, hr_21, he_22, hx2_23⟩ := hw_17
    have hr_21 : (0 : Int) ≤ r_16.toInt ∧ r_16.toInt ≤ 1 := hr_21
    refine lv_if_eq (tgt := 30) hx hb dX9_holds_23 (by decide) (fun c_24 => ?_) (fun c_24 => ?_)
    · skip
      have h_25 := s_eq (rfl : r_16.toInt = _) (show (0 : Int32).toInt = 0 from rfl) c_24
      refine lv_iconst (v := 0) hx hb dX9_holds_30 (by decide) ?_
      have hlv_26 : (0 : Int32).toInt = 0 := rfl
      have hz1 : (1 : Int32).toInt = 1 := rfl
      have hz0 : (0 : Int32).toInt = 0 := rfl
      exact sj_zret hx hb hr hlocks (by decide +kernel) hS im_18 ⟨hO_20, (fun a ha => ((hfr_19 a (by omega)).trans ((up2_n _ _ (by omega)).trans (up2_n _ _ (by omega))))), ⟨by decide, by decide⟩, (by refine ⟨?_, ?_⟩ <;> omega), (fun h => by
      rcases hx2_23 (by omega) with ⟨c9, g1, g2, g3, g4, g5, g6⟩ | ⟨g1, g2⟩
      · by_cases hc : c9 = (i (357 + 2 * j) 1).toInt.toNat
        · subst hc
          have h8 : tgV i j x = some (decide (r_16.toInt = 1)) := top_fin g5
          refine ⟨fun b hb => ?_, fun _ => by rw [h8]; simp, fun _ => ⟨by omega, by omega⟩⟩
          rw [h8] at hb
          have h7 := Option.some.inj hb
          subst h7
          have h6 : (0 : Int32).toInt = r_16.toInt := by omega
          rw [h6]
          by_cases q : r_16.toInt = 1
          · simp [q]
          · simp [q]; omega
        · have h9 := hNB c9 (by omega)
          have h8 : tgV i j x = none := top_none g5 (by omega) (by have := g6; omega) (by have := g6; omega) h9
          refine ⟨fun b hb => ?_, fun q => ?_, fun q => absurd h8 q⟩
          · rw [h8] at hb; exact absurd hb (by simp)
          · exfalso; omega
      · have h8 : tgV i j x = none := top_X g2
        refine ⟨fun b hb => ?_, fun q => ?_, fun q => absurd h8 q⟩
        · rw [h8] at hb; exact absurd hb (by simp)
        · exfalso; omega)⟩ hH (sj_Knil hK) (Nat.le_of_ble_eq_true rfl) (Nat.le_of_ble_eq_true rfl) dX9_holds_31
    · skip
      have h_27 := s_ne (rfl : r_16.toInt = _) (show (0 : Int32).toInt = 0 from rfl) c_24
      refine lv_iconst (v := 1) hx hb dX9_holds_26 (by decide) ?_
      refine lv_goto (tgt := 31) hx hb dX9_holds_27 (by decide) ?_
      have hlv_28 : (1 : Int32).toInt = 1 := rfl
      have hz1 : (1 : Int32).toInt = 1 := rfl
      have hz0 : (0 : Int32).toInt = 0 := rfl
      exact sj_zret hx hb hr hlocks (by decide +kernel) hS im_18 ⟨hO_20, (fun a ha => ((hfr_19 a (by omega)).trans ((up2_n _ _ (by omega)).trans (up2_n _ _ (by omega))))), ⟨by decide, by decide⟩, (by refine ⟨?_, ?_⟩ <;> omega), (fun h => by
      rcases hx2_23 (by omega) with ⟨c9, g1, g2, g3, g4, g5, g6⟩ | ⟨g1, g2⟩
      · by_cases hc : c9 = (i (357 + 2 * j) 1).toInt.toNat
        · subst hc
          have h8 : tgV i j x = some (decide (r_16.toInt = 1)) := top_fin g5
          refine ⟨fun b hb => ?_, fun _ => by rw [h8]; simp, fun _ => ⟨by omega, by omega⟩⟩
          rw [h8] at hb
          have h7 := Option.some.inj hb
          subst h7
          have h6 : (1 : Int32).toInt = r_16.toInt := by omega
          rw [h6]
          by_cases q : r_16.toInt = 1
          · simp [q]
          · simp [q]; omega
        · have h9 := hNB c9 (by omega)
          have h8 : tgV i j x = none := top_none g5 (by omega) (by have := g6; omega) (by have := g6; omega) h9
          refine ⟨fun b hb => ?_, fun q => ?_, fun q => absurd h8 q⟩
          · rw [h8] at hb; exact absurd hb (by simp)
          · exfalso; omega
      · have h8 : tgV i j x = none := top_X g2
        refine ⟨fun b hb => ?_, fun q => ?_, fun q => absurd h8 q⟩
        · rw [h8] at hb; exact absurd hb (by simp)
        · exfalso; omega)⟩ hH (sj_Knil hK) (Nat.le_of_ble_eq_true rfl) (Nat.le_of_ble_eq_true rfl) dX9_holds_31
set_option maxHeartbeats 2000000 in
set_option maxRecDepth 100000 in
theorem k_tagTake (l : Launch) (D : va_G) (g : Nat → Nat) (ka : Nat → ClassId) (ad : Nat → Nat) (i : Nat → Nat → Int32) (r : Nat → Nat → Nat) (L : Nat → Nat → Int64) (d : Nat → Nat → UInt64) (j : Nat) (hO : OkI i) (hR : RS r) (sz : Nat) (hj : j < 11) : Met l yX9_take wsX9_take ({ frames := 124, cells := 0, slots := 0, locals := 4925 }) (va_Pc [.ref (g (357 + 2 * j)), .ref (g 1)] (sj_B D (hwc g ka i r L d) (hT ka) sz (gx ad (va_A (hwc g ka i r L d) sz)))) (sj_Qi (S := (Nat → Nat → Int32)) D (fun v u => OkI u ∧ (∀ a, ¬ (a = 357 + 2 * j ∨ a = 357 + 2 * j + 1) → u a = i a) ∧ ((0 : Int) ≤ v.toInt ∧ v.toInt ≤ 1) ∧ ((i 1 1).toInt ≤ 40 → tgL (u (357 + 2 * j + 1)) 0 (u (357 + 2 * j) 1).toInt.toNat = sqz (tgL (i 2) 0 (i 1 1).toInt.toNat)) ∧ (∀ k : Nat, k < (u (357 + 2 * j) 1).toInt.toNat → (u (357 + 2 * j + 1) k).toInt ≠ 32) ∧ ((v.toInt = 1 ∧ (i 1 1).toInt ≤ 40 ∧ ((u (357 + 2 * j) 1).toInt = 0 ∨ tgV u j 0 ≠ none)) ∨ (v.toInt = 0 ∧ (40 < (i 1 1).toInt ∨ ((u (357 + 2 * j) 1).toInt ≠ 0 ∧ tgV u j 0 = none))))) (fun u => hwc g ka u r L d) (fun _ => []) (va_A (hwc g ka i r L d) sz)) 0 0 (va_A (hwc g ka i r L d) sz) := by
  refine x_met (Ex := gx ad) (cc := cX9_take) (maxL := 3) (ret := (some .boolean)) (by decide) rfl (Nat.le_of_ble_eq_true rfl) ?_
  intro p e s m below meth c A ls hx hb hr hml hts hown hlocks hA hS hH hK hE hl
  have hown : s.vm.findClass RX9 = some m.cls := hown
  have in3 : ∀ w ∈ wsX30, w ∈ wsX9_take := (fun _ h => (List.mem_cons_of_mem _ (List.mem_append_right _ h)))
  have in9 : ∀ w ∈ wsX90, w ∈ wsX9_take := (fun _ h => (List.mem_cons_of_mem _ (List.mem_append_left _ (List.mem_append_right _ h))))
  have wd0 := hts (.fieldLink RX9 13 "StoryDesk$TagExpression" "count" "I") (List.mem_cons_of_mem _ (List.mem_append_left _ (List.mem_append_left _ lm0)))
  have wd1 := hts (.fieldLink RX9 17 "StoryDesk$Letters" "length" "I") (List.mem_cons_of_mem _ (List.mem_append_left _ (List.mem_append_left _ lm1)))
  have wd2 := hts (.fieldLink RX9 29 "StoryDesk$TagExpression" "formed" "Z") (List.mem_cons_of_mem _ (List.mem_append_left _ (List.mem_append_left _ lm4)))
  have wd3 := hts (.fieldLink RX9 33 "StoryDesk$TagExpression" "at" "I") (List.mem_cons_of_mem _ (List.mem_append_left _ (List.mem_append_left _ lm5)))
  have wd4 := hts (.fieldLink RX9 22 "StoryDesk$Letters" "chars" "[C") (List.mem_cons_of_mem _ (List.mem_append_left _ (List.mem_append_left _ lm2)))
  have wd5 := hts (.fieldLink RX9 9 "StoryDesk$TagExpression" "signs" "[C") (List.mem_cons_of_mem _ (List.mem_append_left _ (List.mem_append_left _ lm3)))
  have hl : lv_has ls 3 [(0, .ref (g (357 + 2 * j))), (1, .ref (g 1))] := hl
  have hK : va_K D vwCl (hT ka) s := hK
  refine lv_aload_n hx hb dX9_take_0 rfl (lv_at hl 0 rfl) ?_
  refine lv_iconst (v := 0) hx hb dX9_take_1 (by decide) ?_
  have hO_1 := okp hO (n := (357 + 2 * j)) (k := 1) (v := 0) (by rw [bx_tag hj 1]; exact (show (0 : Int) ≤ (0 : Int32).toInt ∧ (0 : Int32).toInt ≤ 40 from ⟨by decide, by decide⟩))
  refine h_puti (ty := .int) (ci := 9) (C := RX9) (F := TX9) (N := 4) hx hb hts in9 tyX9 tyX9_ok nmX9 hown hK hH hS (lt_nK (by omega)) (kd_tag hj) (by decide) rfl 1 (by decide) wd0 (fun _ h9 => h9) rfl (by decide +kernel) rfl rfl (by decide) rfl dX9_take_2 (fun H locs hH hS => ?_)
  refine lv_aload_n hx hb dX9_take_5 rfl (lv_at hl 1 rfl) ?_
  have bx_2 : (0 : Int) ≤ (i 1 1).toInt ∧ (i 1 1).toInt ≤ 480 := hO 1 1
  refine h_geti (ci := 3) (C := RX3) (F := TX3) (N := 2) hx hb hts in3 hown hK hH (by decide) (rfl : kd 1 = 3) (by decide) rfl 1 (by decide) wd1 (fun _ h9 => h9) (by decide) rfl dX9_take_6 ?_
  refine sj_i (y := (i 1 1)) (congrFun (up2_n _ _ (by omega)) _) ?_
  refine lv_bipush (v := 40) hx hb dX9_take_9 (by decide) ?_
  refine lv_icmp_le (tgt := 16) hx hb dX9_take_11 (by decide) (fun c_3 => ?_) (fun c_3 => ?_)
  · skip
    have h_4 := s_le (rfl : (i 1 1).toInt = _) (show (40 : Int32).toInt = 40 from rfl) c_3
    refine lv_iconst (v := 0) hx hb dX9_take_16 (by decide) ?_
    refine lv_istore_n (lv' := [(2, .int 0), (0, .ref (g (357 + 2 * j))), (1, .ref (g 1))]) hx hb dX9_take_17 rfl hl (by decide) rfl (fun ls hl => ?_)
    -- loop at 18
    have lp_5 : ∀ (fuel_lp_5 : Nat) (f : Int32) (j1 : Nat → Nat → Int32) (H : Heap) (locs : List Loc) (ls : Array Slot), (40 - f.toInt).toNat < fuel_lp_5 → (0 : Int) ≤ f.toInt ∧ f.toInt ≤ 40 → 0 ≤ (j1 (357 + 2 * j) 1).toInt ∧ (j1 (357 + 2 * j) 1).toInt ≤ f.toInt ∧ f.toInt ≤ (i 1 1).toInt → tgL (j1 (357 + 2 * j + 1)) 0 (j1 (357 + 2 * j) 1).toInt.toNat = sqz (tgL (i 2) 0 f.toInt.toNat) → (∀ k : Nat, k < (j1 (357 + 2 * j) 1).toInt.toNat → (j1 (357 + 2 * j + 1) k).toInt ≠ 32) → OkI j1 → (∀ a, ¬ (a = 357 + 2 * j ∨ a = 357 + 2 * j + 1) → j1 a = (up2 i (357 + 2 * j) 1 0) a) → lv_has ls 3 [(2, .int f), (0, .ref (g (357 + 2 * j))), (1, .ref (g 1))] → sj_H D A (hwc g ka j1 r L d) H → va_S A s.heap H locs → W p l e (headSpec wsX9_take ({ frames := 124, cells := 0, slots := 0, locals := 4925 })).room s m ([.ref (g (357 + 2 * j)), .ref (g 1)] : List Value).toArray below meth c H locs 0 0 (MQ below (sj_Qi (S := (Nat → Nat → Int32)) D (fun v u => OkI u ∧ (∀ a, ¬ (a = 357 + 2 * j ∨ a = 357 + 2 * j + 1) → u a = i a) ∧ ((0 : Int) ≤ v.toInt ∧ v.toInt ≤ 1) ∧ ((i 1 1).toInt ≤ 40 → tgL (u (357 + 2 * j + 1)) 0 (u (357 + 2 * j) 1).toInt.toNat = sqz (tgL (i 2) 0 (i 1 1).toInt.toNat)) ∧ (∀ k : Nat, k < (u (357 + 2 * j) 1).toInt.toNat → (u (357 + 2 * j + 1) k).toInt ≠ 32) ∧ ((v.toInt = 1 ∧ (i 1 1).toInt ≤ 40 ∧ ((u (357 + 2 * j) 1).toInt = 0 ∨ tgV u j 0 ≠ none)) ∨ (v.toInt = 0 ∧ (40 < (i 1 1).toInt ∨ ((u (357 + 2 * j) 1).toInt ≠ 0 ∧ tgV u j 0 = none))))) (fun u => hwc g ka u r L d) (fun _ => []) A) ([.ref (g (357 + 2 * j)), .ref (g 1)] : List Value).toArray s 0 0 A) (F0 m 18 ls []) := by
      intro fuel_lp_5
      induction fuel_lp_5 with
      | zero => intros; omega
      | succ fuel_lp_5 ih_lp_5 =>
        intro f j1 H locs ls hm hr_f hi_lp_5_0 hi_lp_5_1 hi_lp_5_2 hO_j1 hfr_j1 hl hH hS
        refine lv_iload_n hx hb dX9_take_18 rfl (lv_at hl 0 rfl) ?_
        refine lv_aload_n hx hb dX9_take_19 rfl (lv_at hl 2 rfl) ?_
        refine h_geti (ci := 3) (C := RX3) (F := TX3) (N := 2) hx hb hts in3 hown hK hH (by decide) (rfl : kd 1 = 3) (by decide) rfl 1 (by decide) wd1 (fun _ h9 => h9) (by decide) rfl dX9_take_20 ?_
        refine sj_i (y := (i 1 1)) ((congrFun (hfr_j1 1 (by omega)) _).trans (congrFun (up2_n _ _ (by omega)) _)) ?_
        refine lv_icmp_ge (tgt := 68) hx hb dX9_take_23 (by decide) (fun c_6 => ?_) (fun c_6 => ?_)
        · skip
          have h_7 := s_le (rfl : (i 1 1).toInt = _) (rfl : f.toInt = _) c_6
          refine lv_aload_n hx hb dX9_take_68 rfl (lv_at hl 1 rfl) ?_
          refine lv_iconst (v := 0) hx hb dX9_take_69 (by decide) ?_
          have hl_8 : (0 : Int32).toInt = 0 := rfl
          have hz1 : (1 : Int32).toInt = 1 := rfl
          have hz0 : (0 : Int32).toInt = 0 := rfl
          refine x_calli (va_runV (As := [.int 0]) (rest := []) ⟨hx, hb, hml, hown, hts⟩ (k_holds l D g ka ad j1 r L d j 0 hO_j1 hR H.size (by first | omega | decide) hi_lp_5_2) (cwV 1 hts gX9_take_X9_holds rfl rfl rfl (by decide +kernel) ⟨(Nat.le_of_ble_eq_true rfl), (Nat.le_of_ble_eq_true rfl)⟩) (x_preV (q := (RX9, TX9, 4)) hH hK (q_obj (lt_nK (by omega)) (kd_tag hj) (by decide)) rfl gxb (gxw hE hS (x_F hH hS hA))) rfl rfl hl.1 rfl (lv_room (Nat.le_of_ble_eq_true rfl)) dX9_take_70 ⟨(Nat.le_of_ble_eq_true rfl), (Nat.le_of_ble_eq_true rfl)⟩) hH hS hA rfl rfl (fun r_9 im_11 H locs hw_10 hH hS => ?_)
          have hH : sj_H D A (hwc g ka im_11 r L d) H := hH
          obtain ⟨hO_13, hfr_12, hr_14, he_15, hx2_16⟩ := hw_10
          have hr_14 : (0 : Int) ≤ r_9.toInt ∧ r_9.toInt ≤ 1 := hr_14
          refine lv_pop hx hb dX9_take_73 rfl ?_
          refine lv_aload_n hx hb dX9_take_74 rfl (lv_at hl 1 rfl) ?_
          have bx_17 : (0 : Int) ≤ (im_11 (357 + 2 * j) 1).toInt ∧ (im_11 (357 + 2 * j) 1).toInt ≤ 40 := by have h9 := hO_13 (357 + 2 * j) 1; rw [bx_tag hj 1] at h9; exact h9
          refine h_geti (ci := 9) (C := RX9) (F := TX9) (N := 4) hx hb hts in9 hown hK hH (lt_nK (by omega)) (kd_tag hj) (by decide) rfl 1 (by decide) wd0 (fun _ h9 => h9) (by decide) rfl dX9_take_75 ?_
          refine lv_if_eq (tgt := 99) hx hb dX9_take_78 (by decide) (fun c_18 => ?_) (fun c_18 => ?_)
          · skip
            have h_19 := s_eq (rfl : (im_11 (357 + 2 * j) 1).toInt = _) (show (0 : Int32).toInt = 0 from rfl) c_18
            refine lv_iconst (v := 1) hx hb dX9_take_99 (by decide) ?_
            refine lv_goto (tgt := 104) hx hb dX9_take_100 (by decide) ?_
            have hz1 : (1 : Int32).toInt = 1 := rfl
            have hz0 : (0 : Int32).toInt = 0 := rfl
            exact sj_zret hx hb hr hlocks (by decide +kernel) hS im_11 ⟨hO_13, (fun a ha => ((hfr_12 a (by omega)).trans ((hfr_j1 a (by omega)).trans (up2_n _ _ (by omega))))), ⟨by decide, by decide⟩, (fun _ => by rw [show im_11 (357 + 2 * j + 1) = j1 (357 + 2 * j + 1) from (hfr_12 (357 + 2 * j + 1) (by omega)), show (im_11 (357 + 2 * j) 1).toInt.toNat = (j1 (357 + 2 * j) 1).toInt.toNat by omega, show (i 1 1).toInt.toNat = f.toInt.toNat by omega]; exact hi_lp_5_1), (fun k hk => by rw [show im_11 (357 + 2 * j + 1) = j1 (357 + 2 * j + 1) from (hfr_12 (357 + 2 * j + 1) (by omega))]; exact hi_lp_5_2 k (by omega)), (Or.inl ⟨by omega, by omega, by
      by_cases q : (im_11 (357 + 2 * j) 1).toInt = 0
      · exact Or.inl q
      · refine Or.inr ?_
        rw [tgV_fr (i := j1) (u := im_11) (j := j) (x := 0) (hfr_12 (357 + 2 * j + 1) (by omega)) (by omega)]
        exact (hx2_16 (by omega)).2.1 ⟨by omega, by omega⟩⟩)⟩ hH (sj_Knil hK) (Nat.le_of_ble_eq_true rfl) (Nat.le_of_ble_eq_true rfl) dX9_take_104
          · skip
            have h_20 := s_ne (rfl : (im_11 (357 + 2 * j) 1).toInt = _) (show (0 : Int32).toInt = 0 from rfl) c_18
            refine lv_aload_n hx hb dX9_take_81 rfl (lv_at hl 1 rfl) ?_
            have bx_21 : (0 : Int) ≤ (im_11 (357 + 2 * j) 3).toInt ∧ (im_11 (357 + 2 * j) 3).toInt ≤ 1 := by have h9 := hO_13 (357 + 2 * j) 3; rw [bx_tag hj 3] at h9; exact h9
            refine h_geti (ci := 9) (C := RX9) (F := TX9) (N := 4) hx hb hts in9 hown hK hH (lt_nK (by omega)) (kd_tag hj) (by decide) rfl 3 (by decide) wd2 (fun _ h9 => h9) (by decide) rfl dX9_take_82 ?_
            refine lv_if_eq (tgt := 103) hx hb dX9_take_85 (by decide) (fun c_22 => ?_) (fun c_22 => ?_)
            · skip
              have h_23 := s_eq (rfl : (im_11 (357 + 2 * j) 3).toInt = _) (show (0 : Int32).toInt = 0 from rfl) c_22
              refine lv_iconst (v := 0) hx hb dX9_take_103 (by decide) ?_
              have hz1 : (1 : Int32).toInt = 1 := rfl
              have hz0 : (0 : Int32).toInt = 0 := rfl
              exact sj_zret hx hb hr hlocks (by decide +kernel) hS im_11 ⟨hO_13, (fun a ha => ((hfr_12 a (by omega)).trans ((hfr_j1 a (by omega)).trans (up2_n _ _ (by omega))))), ⟨by decide, by decide⟩, (fun _ => by rw [show im_11 (357 + 2 * j + 1) = j1 (357 + 2 * j + 1) from (hfr_12 (357 + 2 * j + 1) (by omega)), show (im_11 (357 + 2 * j) 1).toInt.toNat = (j1 (357 + 2 * j) 1).toInt.toNat by omega, show (i 1 1).toInt.toNat = f.toInt.toNat by omega]; exact hi_lp_5_1), (fun k hk => by rw [show im_11 (357 + 2 * j + 1) = j1 (357 + 2 * j + 1) from (hfr_12 (357 + 2 * j + 1) (by omega))]; exact hi_lp_5_2 k (by omega)), (Or.inr ⟨by omega, Or.inr ⟨by omega, by
      rw [tgV_fr (i := j1) (u := im_11) (j := j) (x := 0) (hfr_12 (357 + 2 * j + 1) (by omega)) (by omega)]
      by_cases q : tgV j1 j 0 = none
      · exact q
      · exfalso
        have h8 := (hx2_16 (by omega)).2.2 q
        omega⟩⟩)⟩ hH (sj_Knil hK) (Nat.le_of_ble_eq_true rfl) (Nat.le_of_ble_eq_true rfl) dX9_take_104
            · skip
              have h_24 := s_ne (rfl : (im_11 (357 + 2 * j) 3).toInt = _) (show (0 : Int32).toInt = 0 from rfl) c_22
              refine lv_aload_n hx hb dX9_take_88 rfl (lv_at hl 1 rfl) ?_
              have bx_25 : (0 : Int) ≤ (im_11 (357 + 2 * j) 2).toInt ∧ (im_11 (357 + 2 * j) 2).toInt ≤ 127 := by have h9 := hO_13 (357 + 2 * j) 2; rw [bx_tag hj 2] at h9; exact h9
              refine h_geti (ci := 9) (C := RX9) (F := TX9) (N := 4) hx hb hts in9 hown hK hH (lt_nK (by omega)) (kd_tag hj) (by decide) rfl 2 (by decide) wd3 (fun _ h9 => h9) (by decide) rfl dX9_take_89 ?_
              refine lv_aload_n hx hb dX9_take_92 rfl (lv_at hl 1 rfl) ?_
              refine h_geti (ci := 9) (C := RX9) (F := TX9) (N := 4) hx hb hts in9 hown hK hH (lt_nK (by omega)) (kd_tag hj) (by decide) rfl 1 (by decide) wd0 (fun _ h9 => h9) (by decide) rfl dX9_take_93 ?_
              refine lv_icmp_ne (tgt := 103) hx hb dX9_take_96 (by decide) (fun c_26 => ?_) (fun c_26 => ?_)
              · skip
                have h_27 := s_ne (rfl : (im_11 (357 + 2 * j) 2).toInt = _) (rfl : (im_11 (357 + 2 * j) 1).toInt = _) c_26
                refine lv_iconst (v := 0) hx hb dX9_take_103 (by decide) ?_
                have hz1 : (1 : Int32).toInt = 1 := rfl
                have hz0 : (0 : Int32).toInt = 0 := rfl
                exact sj_zret hx hb hr hlocks (by decide +kernel) hS im_11 ⟨hO_13, (fun a ha => ((hfr_12 a (by omega)).trans ((hfr_j1 a (by omega)).trans (up2_n _ _ (by omega))))), ⟨by decide, by decide⟩, (fun _ => by rw [show im_11 (357 + 2 * j + 1) = j1 (357 + 2 * j + 1) from (hfr_12 (357 + 2 * j + 1) (by omega)), show (im_11 (357 + 2 * j) 1).toInt.toNat = (j1 (357 + 2 * j) 1).toInt.toNat by omega, show (i 1 1).toInt.toNat = f.toInt.toNat by omega]; exact hi_lp_5_1), (fun k hk => by rw [show im_11 (357 + 2 * j + 1) = j1 (357 + 2 * j + 1) from (hfr_12 (357 + 2 * j + 1) (by omega))]; exact hi_lp_5_2 k (by omega)), (Or.inr ⟨by omega, Or.inr ⟨by omega, by
      rw [tgV_fr (i := j1) (u := im_11) (j := j) (x := 0) (hfr_12 (357 + 2 * j + 1) (by omega)) (by omega)]
      by_cases q : tgV j1 j 0 = none
      · exact q
      · exfalso
        have h8 := (hx2_16 (by omega)).2.2 q
        omega⟩⟩)⟩ hH (sj_Knil hK) (Nat.le_of_ble_eq_true rfl) (Nat.le_of_ble_eq_true rfl) dX9_take_104
              · skip
                have h_28 := s_eq (rfl : (im_11 (357 + 2 * j) 2).toInt = _) (rfl : (im_11 (357 + 2 * j) 1).toInt = _) c_26
                refine lv_iconst (v := 1) hx hb dX9_take_99 (by decide) ?_
                refine lv_goto (tgt := 104) hx hb dX9_take_100 (by decide) ?_
                have hz1 : (1 : Int32).toInt = 1 := rfl
                have hz0 : (0 : Int32).toInt = 0 := rfl
                exact sj_zret hx hb hr hlocks (by decide +kernel) hS im_11 ⟨hO_13, (fun a ha => ((hfr_12 a (by omega)).trans ((hfr_j1 a (by omega)).trans (up2_n _ _ (by omega))))), ⟨by decide, by decide⟩, (fun _ => by rw [show im_11 (357 + 2 * j + 1) = j1 (357 + 2 * j + 1) from (hfr_12 (357 + 2 * j + 1) (by omega)), show (im_11 (357 + 2 * j) 1).toInt.toNat = (j1 (357 + 2 * j) 1).toInt.toNat by omega, show (i 1 1).toInt.toNat = f.toInt.toNat by omega]; exact hi_lp_5_1), (fun k hk => by rw [show im_11 (357 + 2 * j + 1) = j1 (357 + 2 * j + 1) from (hfr_12 (357 + 2 * j + 1) (by omega))]; exact hi_lp_5_2 k (by omega)), (Or.inl ⟨by omega, by omega, by
      by_cases q : (im_11 (357 + 2 * j) 1).toInt = 0
      · exact Or.inl q
      · refine Or.inr ?_
        rw [tgV_fr (i := j1) (u := im_11) (j := j) (x := 0) (hfr_12 (357 + 2 * j + 1) (by omega)) (by omega)]
        exact (hx2_16 (by omega)).2.1 ⟨by omega, by omega⟩⟩)⟩ hH (sj_Knil hK) (Nat.le_of_ble_eq_true rfl) (Nat.le_of_ble_eq_true rfl) dX9_take_104
        · skip
          have h_29 := s_nle (rfl : (i 1 1).toInt = _) (rfl : f.toInt = _) c_6
          refine lv_aload_n hx hb dX9_take_26 rfl (lv_at hl 2 rfl) ?_
          refine h_getr (ci := 3) (C := RX3) (F := TX3) (N := 2) hx hb hts in3 hown hK hH (by decide) (rfl : kd 1 = 3) (by decide) rfl 0 (by decide) wd4 (fun _ h9 => h9) (by decide) rfl (t := 2) (hR 1 0 rfl) (by decide) dX9_take_27 ?_
          refine lv_iload_n hx hb dX9_take_30 rfl (lv_at hl 0 rfl) ?_
          have bx_30 : (0 : Int) ≤ (i 2 (f.toInt).toNat).toInt ∧ (i 2 (f.toInt).toNat).toInt ≤ 65535 := hO 2 (f.toInt).toNat
          refine h_cald hx hb hK hH (by decide) (rfl : kd 2 = 14) (s_vin (N := 480) (rfl : f.toInt = _) (rfl : ln 2 = 480) (by omega) (by omega)) dX9_take_31 ?_
          have ek_31 : f.toNatClampNeg = (f.toInt).toNat := (s_cl (show f.toInt = f.toInt by omega))
          refine sj_i (y := (i 2 (f.toInt).toNat)) (by rw [ek_31]; exact ((congrFun (hfr_j1 2 (by omega)) _).trans (congrFun (up2_n _ _ (by omega)) _))) ?_
          refine lv_bipush (v := 32) hx hb dX9_take_32 (by decide) ?_
          refine lv_icmp_eq (tgt := 62) hx hb dX9_take_34 (by decide) (fun c_32 => ?_) (fun c_32 => ?_)
          · skip
            have h_33 := s_eq (rfl : (i 2 (f.toInt).toNat).toInt = _) (show (32 : Int32).toInt = 32 from rfl) c_32
            obtain ⟨z_34, ez_34, hz_34⟩ := s_add (rfl : f.toInt = _) (show (1 : Int32).toInt = 1 from rfl) (by omega) (by omega)
            refine lv_iinc (v := z_34) (lv' := [(2, .int z_34), (0, .ref (g (357 + 2 * j))), (1, .ref (g 1))]) hx hb dX9_take_62 hl (k := 0) rfl ez_34 (by decide) rfl (fun ls hl => ?_)
            refine lv_goto (tgt := 18) hx hb dX9_take_65 (by decide) ?_
            have hz1 : (1 : Int32).toInt = 1 := rfl
            have hz0 : (0 : Int32).toInt = 0 := rfl
            exact ih_lp_5 z_34 _ _ _ ls (by omega) (by omega) (by omega) (by rw [show (z_34).toInt.toNat = f.toInt.toNat + 1 by omega]; exact tgL_sk hi_lp_5_1 (by omega)) hi_lp_5_2 hO_j1 (fun a ha => (hfr_j1 a (by omega))) (lv_sub hl [0, 1, 2] rfl) hH hS
          · skip
            have h_35 := s_ne (rfl : (i 2 (f.toInt).toNat).toInt = _) (show (32 : Int32).toInt = 32 from rfl) c_32
            refine lv_aload_n hx hb dX9_take_37 rfl (lv_at hl 1 rfl) ?_
            refine h_getr (ci := 9) (C := RX9) (F := TX9) (N := 4) hx hb hts in9 hown hK hH (lt_nK (by omega)) (kd_tag hj) (by decide) rfl 0 (by decide) wd5 (fun _ h9 => h9) (by decide) rfl (t := (357 + 2 * j + 1)) ((hR _ _ (by unfold dyn; simp <;> omega)).trans (sr_tag (by omega))) (lt_nK (by omega)) dX9_take_38 ?_
            refine lv_aload_n hx hb dX9_take_41 rfl (lv_at hl 1 rfl) ?_
            have bx_36 : (0 : Int) ≤ (j1 (357 + 2 * j) 1).toInt ∧ (j1 (357 + 2 * j) 1).toInt ≤ 40 := by have h9 := hO_j1 (357 + 2 * j) 1; rw [bx_tag hj 1] at h9; exact h9
            refine h_geti (ci := 9) (C := RX9) (F := TX9) (N := 4) hx hb hts in9 hown hK hH (lt_nK (by omega)) (kd_tag hj) (by decide) rfl 1 (by decide) wd0 (fun _ h9 => h9) (by decide) rfl dX9_take_42 ?_
            refine lv_aload_n hx hb dX9_take_45 rfl (lv_at hl 2 rfl) ?_
            refine h_getr (ci := 3) (C := RX3) (F := TX3) (N := 2) hx hb hts in3 hown hK hH (by decide) (rfl : kd 1 = 3) (by decide) rfl 0 (by decide) wd4 (fun _ h9 => h9) (by decide) rfl (t := 2) (hR 1 0 rfl) (by decide) dX9_take_46 ?_
            refine lv_iload_n hx hb dX9_take_49 rfl (lv_at hl 0 rfl) ?_
            refine h_cald hx hb hK hH (by decide) (rfl : kd 2 = 14) (s_vin (N := 480) (rfl : f.toInt = _) (rfl : ln 2 = 480) (by omega) (by omega)) dX9_take_50 ?_
            have ek_37 : f.toNatClampNeg = (f.toInt).toNat := (s_cl (show f.toInt = f.toInt by omega))
            refine sj_i (y := (i 2 (f.toInt).toNat)) (by rw [ek_37]; exact ((congrFun (hfr_j1 2 (by omega)) _).trans (congrFun (up2_n _ _ (by omega)) _))) ?_
            obtain ⟨z_38, ez_38⟩ : ∃ z, vp_nar .char (i 2 (f.toInt).toNat) = z := ⟨_, rfl⟩
            have hz_38 : z_38.toInt = (i 2 (f.toInt).toNat).toInt := by rw [← ez_38, s_narc (rfl : (i 2 (f.toInt).toNat).toInt = _) (by omega) (by omega)] <;> exact (rfl : (i 2 (f.toInt).toNat).toInt = _)
            have hO_39 := okp hO_j1 (n := (357 + 2 * j + 1)) (k := ((j1 (357 + 2 * j) 1).toInt).toNat) (v := z_38) (by rw [bx_taga hj ((j1 (357 + 2 * j) 1).toInt).toNat]; exact (show (0 : Int) ≤ (z_38 : Int32).toInt ∧ (z_38 : Int32).toInt ≤ 65535 from ⟨by omega, by omega⟩))
            refine h_cast hx hb hK hH hS (lt_nK (by omega)) (kd_taga hj) (s_vin (N := 40) (rfl : (j1 (357 + 2 * j) 1).toInt = _) (ln_taga hj) (by omega) (by omega)) dX9_take_51 (fun H locs hH hS => ?_)
            rw [ez_38] at hH
            rw [s_cl (show (j1 (357 + 2 * j) 1).toInt = (j1 (357 + 2 * j) 1).toInt by omega)] at hH
            refine lv_aload_n hx hb dX9_take_52 rfl (lv_at hl 1 rfl) ?_
            refine lv_dup hx hb dX9_take_53 rfl ?_
            refine h_geti (ci := 9) (C := RX9) (F := TX9) (N := 4) hx hb hts in9 hown hK hH (lt_nK (by omega)) (kd_tag hj) (by decide) rfl 1 (by decide) wd0 (fun _ h9 => h9) (by decide) rfl dX9_take_54 ?_
            refine sj_i (y := (j1 (357 + 2 * j) 1)) (congrFun (up2_n _ _ (by omega)) _) ?_
            refine lv_iconst (v := 1) hx hb dX9_take_57 (by decide) ?_
            refine lv_iadd hx hb dX9_take_58 ?_
            obtain ⟨z_40, ez_40, hz_40⟩ := s_add (rfl : (j1 (357 + 2 * j) 1).toInt = _) (show (1 : Int32).toInt = 1 from rfl) (by omega) (by omega)
            refine sj_i ez_40 ?_
            have hO_41 := okp hO_39 (n := (357 + 2 * j)) (k := 1) (v := z_40) (by rw [bx_tag hj 1]; exact (show (0 : Int) ≤ (z_40 : Int32).toInt ∧ (z_40 : Int32).toInt ≤ 40 from ⟨by omega, by omega⟩))
            refine h_puti (ty := .int) (ci := 9) (C := RX9) (F := TX9) (N := 4) hx hb hts in9 tyX9 tyX9_ok nmX9 hown hK hH hS (lt_nK (by omega)) (kd_tag hj) (by decide) rfl 1 (by decide) wd0 (fun _ h9 => h9) rfl (by decide +kernel) rfl rfl (by decide) rfl dX9_take_59 (fun H locs hH hS => ?_)
            obtain ⟨z_42, ez_42, hz_42⟩ := s_add (rfl : f.toInt = _) (show (1 : Int32).toInt = 1 from rfl) (by omega) (by omega)
            refine lv_iinc (v := z_42) (lv' := [(2, .int z_42), (0, .ref (g (357 + 2 * j))), (1, .ref (g 1))]) hx hb dX9_take_62 hl (k := 0) rfl ez_42 (by decide) rfl (fun ls hl => ?_)
            refine lv_goto (tgt := 18) hx hb dX9_take_65 (by decide) ?_
            have hz1 : (1 : Int32).toInt = 1 := rfl
            have hz0 : (0 : Int32).toInt = 0 := rfl
            have hw_43 : ((up2 (up2 j1 (357 + 2 * j + 1) ((j1 (357 + 2 * j) 1).toInt).toNat z_38) (357 + 2 * j) 1 z_40) (357 + 2 * j) 1).toInt = (z_40 : Int32).toInt := congrArg Int32.toInt ((up2_at _ _ _ _))
            have hw_44 : ((up2 (up2 j1 (357 + 2 * j + 1) ((j1 (357 + 2 * j) 1).toInt).toNat z_38) (357 + 2 * j) 1 z_40) (357 + 2 * j) 2).toInt = ((j1 (357 + 2 * j) 2) : Int32).toInt := congrArg Int32.toInt (((up2_k _ _ (by decide)).trans (congrFun (up2_n _ _ (by omega)) _)))
            have hw_45 : ((up2 (up2 j1 (357 + 2 * j + 1) ((j1 (357 + 2 * j) 1).toInt).toNat z_38) (357 + 2 * j) 1 z_40) (357 + 2 * j) 3).toInt = ((j1 (357 + 2 * j) 3) : Int32).toInt := congrArg Int32.toInt (((up2_k _ _ (by decide)).trans (congrFun (up2_n _ _ (by omega)) _)))
            exact ih_lp_5 z_42 _ _ _ ls (by omega) (by omega) (by omega) (by rw [show ((up2 (up2 j1 (357 + 2 * j + 1) ((j1 (357 + 2 * j) 1).toInt).toNat z_38) (357 + 2 * j) 1 z_40) (357 + 2 * j) 1).toInt.toNat = (j1 (357 + 2 * j) 1).toInt.toNat + 1 by omega, show (z_42).toInt.toNat = f.toInt.toNat + 1 by omega, show (up2 (up2 j1 (357 + 2 * j + 1) ((j1 (357 + 2 * j) 1).toInt).toNat z_38) (357 + 2 * j) 1 z_40) (357 + 2 * j + 1) = upd (j1 (357 + 2 * j + 1)) ((j1 (357 + 2 * j) 1).toInt).toNat z_38 from ((up2_n _ _ (by omega)).trans (up2_r _ _ _ _))]; exact tgL_sq hi_lp_5_1 (by omega) (by omega)) (fun k hk => by
        rw [show (up2 (up2 j1 (357 + 2 * j + 1) ((j1 (357 + 2 * j) 1).toInt).toNat z_38) (357 + 2 * j) 1 z_40) (357 + 2 * j + 1) = upd (j1 (357 + 2 * j + 1)) ((j1 (357 + 2 * j) 1).toInt).toNat z_38 from ((up2_n _ _ (by omega)).trans (up2_r _ _ _ _))]
        by_cases q : k = (j1 (357 + 2 * j) 1).toInt.toNat
        · rw [q, upd_at]; omega
        · rw [upd_ne q]; exact hi_lp_5_2 k (by omega)) hO_41 (fun a ha => ((up2_n _ _ (by omega)).trans ((up2_n _ _ (by omega)).trans (hfr_j1 a (by omega))))) (lv_sub hl [0, 1, 2] rfl) hH hS
    have hl_46 : (0 : Int32).toInt = 0 := rfl
    have hz1 : (1 : Int32).toInt = 1 := rfl
    have hz0 : (0 : Int32).toInt = 0 := rfl
    have hw_47 : ((up2 i (357 + 2 * j) 1 0) (357 + 2 * j) 1).toInt = (0 : Int32).toInt := congrArg Int32.toInt ((up2_at _ _ _ _))
    have hw_48 : ((up2 i (357 + 2 * j) 1 0) (357 + 2 * j) 2).toInt = ((i (357 + 2 * j) 2) : Int32).toInt := congrArg Int32.toInt ((up2_k _ _ (by decide)))
    have hw_49 : ((up2 i (357 + 2 * j) 1 0) (357 + 2 * j) 3).toInt = ((i (357 + 2 * j) 3) : Int32).toInt := congrArg Int32.toInt ((up2_k _ _ (by decide)))
    exact lp_5 _ 0 _ _ _ ls (Nat.lt_succ_self _) (by omega) (by omega) (by rw [show ((up2 i (357 + 2 * j) 1 0) (357 + 2 * j) 1).toInt.toNat = 0 by omega]; rfl) (fun k hk => by exfalso; omega) hO_1 (fun a ha => rfl) (lv_sub hl [0, 1, 2] rfl) hH hS
  · skip
    have h_50 := s_nle (rfl : (i 1 1).toInt = _) (show (40 : Int32).toInt = 40 from rfl) c_3
    refine lv_iconst (v := 0) hx hb dX9_take_14 (by decide) ?_
    have hz1 : (1 : Int32).toInt = 1 := rfl
    have hz0 : (0 : Int32).toInt = 0 := rfl
    have hw_51 : ((up2 i (357 + 2 * j) 1 0) (357 + 2 * j) 1).toInt = (0 : Int32).toInt := congrArg Int32.toInt ((up2_at _ _ _ _))
    have hw_52 : ((up2 i (357 + 2 * j) 1 0) (357 + 2 * j) 2).toInt = ((i (357 + 2 * j) 2) : Int32).toInt := congrArg Int32.toInt ((up2_k _ _ (by decide)))
    have hw_53 : ((up2 i (357 + 2 * j) 1 0) (357 + 2 * j) 3).toInt = ((i (357 + 2 * j) 3) : Int32).toInt := congrArg Int32.toInt ((up2_k _ _ (by decide)))
    exact sj_zret hx hb hr hlocks (by decide +kernel) hS (up2 i (357 + 2 * j) 1 0) ⟨hO_1, (fun a ha => (up2_n _ _ (by omega))), ⟨by decide, by decide⟩, (fun h => absurd h (by omega)), (fun k hk => by exfalso; omega), (Or.inr ⟨by omega, Or.inl (by omega)⟩)⟩ hH (sj_Knil hK) (Nat.le_of_ble_eq_true rfl) (Nat.le_of_ble_eq_true rfl) dX9_take_15
