/-- how many signs wait for two values -/
def nbS : List Int → Nat
  | [] => 0
  | c :: s => nbS s + (if c = 33 ∨ c = 40 then 0 else 1)
theorem nbS_or (c : Int) (s : List Int) : ((c = 33 ∨ c = 40) ∧ nbS (c :: s) = nbS s) ∨ (¬ (c = 33 ∨ c = 40) ∧ nbS (c :: s) = nbS s + 1) := by
  by_cases h : c = 33 ∨ c = 40
  · refine Or.inl ⟨h, ?_⟩
    show nbS s + (if c = 33 ∨ c = 40 then 0 else 1) = _
    rw [if_pos h]; rfl
  · refine Or.inr ⟨h, ?_⟩
    show nbS s + (if c = 33 ∨ c = 40 then 0 else 1) = _
    rw [if_neg h]
theorem mneg_nb : ∀ (s : List Int) (V : List Bool), nbS (mneg V s).2 = nbS s
  | [], _ => rfl
  | c :: s, V => by
    unfold mneg
    split
    · rename_i h
      rw [mneg_nb s]
      have := nbS_or c s
      omega
    · rfl
theorem mpop_nil {b : Int} {V : List Bool} : mpop b V [] = (V, []) := rfl
theorem mpop_stop {b c : Int} {V : List Bool} {s : List Int} (h : c = 40 ∨ bnd c < b) : mpop b V (c :: s) = (V, c :: s) := by
  show (if c = 40 ∨ bnd c < b then _ else _) = _
  rw [if_pos h]
theorem mpop_go {b c : Int} {V : List Bool} {s : List Int} (h : ¬ (c = 40 ∨ bnd c < b)) : mpop b V (c :: s) = mpop b (mapp c V) s := by
  show (if c = 40 ∨ bnd c < b then _ else _) = _
  rw [if_neg h]
theorem bnd_0 (c : Int) : 0 ≤ bnd c := by unfold bnd; split <;> (try split) <;> omega
theorem dX12_operator_0 : decode cX12_operator 0 = .ok (.iload_n 1, 1) := by decide +kernel
theorem dX12_operator_1 : decode cX12_operator 1 = .ok (.bipush 38, 2) := by decide +kernel
theorem dX12_operator_3 : decode cX12_operator 3 = .ok (.if_icmp .eq 17, 3) := by decide +kernel
theorem dX12_operator_20 : decode cX12_operator 20 = .ok (.aload_n 0, 1) := by decide +kernel
theorem dX12_operator_21 : decode cX12_operator 21 = .ok (.getfield 369, 3) := by decide +kernel
theorem dX12_operator_24 : decode cX12_operator 24 = .ok (.ifCond .le 47, 3) := by decide +kernel
theorem dX12_operator_71 : decode cX12_operator 71 = .ok (.iload_n 1, 1) := by decide +kernel
theorem dX12_operator_72 : decode cX12_operator 72 = .ok (.bipush 41, 2) := by decide +kernel
theorem dX12_operator_74 : decode cX12_operator 74 = .ok (.if_icmp .eq 25, 3) := by decide +kernel
theorem dX12_operator_77 : decode cX12_operator 77 = .ok (.aload_n 0, 1) := by decide +kernel
theorem dX12_operator_78 : decode cX12_operator 78 = .ok (.getfield 366, 3) := by decide +kernel
theorem dX12_operator_81 : decode cX12_operator 81 = .ok (.aload_n 0, 1) := by decide +kernel
theorem dX12_operator_82 : decode cX12_operator 82 = .ok (.getfield 369, 3) := by decide +kernel
theorem dX12_operator_85 : decode cX12_operator 85 = .ok (.iload_n 1, 1) := by decide +kernel
theorem dX12_operator_86 : decode cX12_operator 86 = .ok (.castore, 1) := by decide +kernel
theorem dX12_operator_87 : decode cX12_operator 87 = .ok (.aload_n 0, 1) := by decide +kernel
theorem dX12_operator_88 : decode cX12_operator 88 = .ok (.dup, 1) := by decide +kernel
theorem dX12_operator_89 : decode cX12_operator 89 = .ok (.getfield 369, 3) := by decide +kernel
theorem dX12_operator_92 : decode cX12_operator 92 = .ok (.iconst 1, 1) := by decide +kernel
theorem dX12_operator_93 : decode cX12_operator 93 = .ok (.iadd, 1) := by decide +kernel
theorem dX12_operator_94 : decode cX12_operator 94 = .ok (.putfield 369, 3) := by decide +kernel
theorem dX12_operator_97 : decode cX12_operator 97 = .ok (.iconst 1, 1) := by decide +kernel
theorem dX12_operator_98 : decode cX12_operator 98 = .ok (.ireturn, 1) := by decide +kernel
theorem dX12_operator_27 : decode cX12_operator 27 = .ok (.aload_n 0, 1) := by decide +kernel
theorem dX12_operator_28 : decode cX12_operator 28 = .ok (.getfield 366, 3) := by decide +kernel
theorem dX12_operator_31 : decode cX12_operator 31 = .ok (.aload_n 0, 1) := by decide +kernel
theorem dX12_operator_32 : decode cX12_operator 32 = .ok (.getfield 369, 3) := by decide +kernel
theorem dX12_operator_35 : decode cX12_operator 35 = .ok (.iconst 1, 1) := by decide +kernel
theorem dX12_operator_36 : decode cX12_operator 36 = .ok (.isub, 1) := by decide +kernel
theorem dX12_operator_37 : decode cX12_operator 37 = .ok (.caload, 1) := by decide +kernel
theorem dX12_operator_38 : decode cX12_operator 38 = .ok (.bipush 40, 2) := by decide +kernel
theorem dX12_operator_40 : decode cX12_operator 40 = .ok (.if_icmp .eq 31, 3) := by decide +kernel
theorem dX12_operator_43 : decode cX12_operator 43 = .ok (.aload_n 0, 1) := by decide +kernel
theorem dX12_operator_44 : decode cX12_operator 44 = .ok (.getfield 366, 3) := by decide +kernel
theorem dX12_operator_47 : decode cX12_operator 47 = .ok (.aload_n 0, 1) := by decide +kernel
theorem dX12_operator_48 : decode cX12_operator 48 = .ok (.getfield 369, 3) := by decide +kernel
theorem dX12_operator_51 : decode cX12_operator 51 = .ok (.iconst 1, 1) := by decide +kernel
theorem dX12_operator_52 : decode cX12_operator 52 = .ok (.isub, 1) := by decide +kernel
theorem dX12_operator_53 : decode cX12_operator 53 = .ok (.caload, 1) := by decide +kernel
theorem dX12_operator_54 : decode cX12_operator 54 = .ok (.invokestatic 384, 3) := by decide +kernel
theorem dX12_operator_57 : decode cX12_operator 57 = .ok (.iload_n 1, 1) := by decide +kernel
theorem dX12_operator_58 : decode cX12_operator 58 = .ok (.invokestatic 384, 3) := by decide +kernel
theorem dX12_operator_61 : decode cX12_operator 61 = .ok (.if_icmp .lt 10, 3) := by decide +kernel
theorem dX12_operator_64 : decode cX12_operator 64 = .ok (.aload_n 0, 1) := by decide +kernel
theorem dX12_operator_65 : decode cX12_operator 65 = .ok (.invokevirtual 378, 3) := by decide +kernel
theorem dX12_operator_68 : decode cX12_operator 68 = .ok (.goto (-48), 3) := by decide +kernel
theorem dX12_operator_6 : decode cX12_operator 6 = .ok (.iload_n 1, 1) := by decide +kernel
theorem dX12_operator_7 : decode cX12_operator 7 = .ok (.bipush 124, 2) := by decide +kernel
theorem dX12_operator_9 : decode cX12_operator 9 = .ok (.if_icmp .eq 11, 3) := by decide +kernel
theorem dX12_operator_12 : decode cX12_operator 12 = .ok (.iload_n 1, 1) := by decide +kernel
theorem dX12_operator_13 : decode cX12_operator 13 = .ok (.bipush 41, 2) := by decide +kernel
theorem dX12_operator_15 : decode cX12_operator 15 = .ok (.if_icmp .eq 5, 3) := by decide +kernel
theorem dX12_operator_99 : decode cX12_operator 99 = .ok (.aload_n 0, 1) := by decide +kernel
theorem dX12_operator_100 : decode cX12_operator 100 = .ok (.getfield 369, 3) := by decide +kernel
theorem dX12_operator_103 : decode cX12_operator 103 = .ok (.ifCond .ne 5, 3) := by decide +kernel
theorem dX12_operator_106 : decode cX12_operator 106 = .ok (.iconst 0, 1) := by decide +kernel
theorem dX12_operator_107 : decode cX12_operator 107 = .ok (.ireturn, 1) := by decide +kernel
theorem dX12_operator_108 : decode cX12_operator 108 = .ok (.aload_n 0, 1) := by decide +kernel
theorem dX12_operator_109 : decode cX12_operator 109 = .ok (.dup, 1) := by decide +kernel
theorem dX12_operator_110 : decode cX12_operator 110 = .ok (.getfield 369, 3) := by decide +kernel
theorem dX12_operator_113 : decode cX12_operator 113 = .ok (.iconst 1, 1) := by decide +kernel
theorem dX12_operator_114 : decode cX12_operator 114 = .ok (.isub, 1) := by decide +kernel
theorem dX12_operator_115 : decode cX12_operator 115 = .ok (.putfield 369, 3) := by decide +kernel
theorem dX12_operator_118 : decode cX12_operator 118 = .ok (.aload_n 0, 1) := by decide +kernel
theorem dX12_operator_119 : decode cX12_operator 119 = .ok (.invokevirtual 381, 3) := by decide +kernel
theorem dX12_operator_122 : decode cX12_operator 122 = .ok (.iconst 1, 1) := by decide +kernel
theorem dX12_operator_123 : decode cX12_operator 123 = .ok (.ireturn, 1) := by decide +kernel
theorem dX12_operator_18 : decode cX12_operator 18 = .ok (.iconst 0, 1) := by decide +kernel
theorem dX12_operator_19 : decode cX12_operator 19 = .ok (.ireturn, 1) := by decide +kernel
theorem gw_X12_binding : wsX12_binding.all goodWord = true := by decide +kernel
theorem gX12_operator_X12_binding : GoodIn wsX12_operator (va_wsS RX12 384 yX12_binding wsX12_binding) := goodIn_app (goodIn_sub (List.forall_mem_cons.mpr ⟨(List.mem_cons_of_mem _ (List.mem_append_left _ lm2)), List.forall_mem_cons.mpr ⟨(List.mem_cons_of_mem _ (List.mem_append_left _ lm3)), List.forall_mem_cons.mpr ⟨(List.mem_cons_of_mem _ (List.mem_append_left _ lm4)), (fun _ h => absurd h List.not_mem_nil)⟩⟩⟩) (by decide +kernel)) (goodIn_sub (by unfold wsX12_binding; exact List.forall_mem_cons.mpr ⟨(List.mem_cons_of_mem _ (List.mem_append_left _ lm5)), (fun _ h => absurd h List.not_mem_nil)⟩) gw_X12_binding)
theorem gX12_operator_X12_applyTop : GoodIn wsX12_operator (wsV RX12 378 RX12 yX12_applyTop wsX12_applyTop) := goodIn_app (goodIn_sub (List.forall_mem_cons.mpr ⟨(List.mem_cons_of_mem _ (List.mem_append_left _ lm6)), List.forall_mem_cons.mpr ⟨(List.mem_cons_of_mem _ (List.mem_append_left _ lm7)), List.forall_mem_cons.mpr ⟨(List.mem_cons_of_mem _ (List.mem_append_left _ lm8)), List.forall_mem_cons.mpr ⟨(List.mem_cons_of_mem _ (List.mem_append_left _ lm4)), (fun _ h => absurd h List.not_mem_nil)⟩⟩⟩⟩) (by decide +kernel)) (goodIn_sub (by unfold wsX12_applyTop; exact List.forall_mem_cons.mpr ⟨(List.mem_cons_of_mem _ (List.mem_append_left _ lm9)), List.forall_mem_append.mpr ⟨List.forall_mem_cons.mpr ⟨(List.mem_cons_of_mem _ (List.mem_append_left _ lm1)), List.forall_mem_cons.mpr ⟨(List.mem_cons_of_mem _ (List.mem_append_left _ lm0)), List.forall_mem_cons.mpr ⟨(List.mem_cons_of_mem _ (List.mem_append_left _ lm10)), List.forall_mem_cons.mpr ⟨(List.mem_cons_of_mem _ (List.mem_append_left _ lm11)), (fun _ h => absurd h List.not_mem_nil)⟩⟩⟩⟩, (fun _ h => (List.mem_cons_of_mem _ (List.mem_append_right _ h)))⟩⟩) gw_X12_applyTop)
theorem gX12_operator_X12_negate : GoodIn wsX12_operator (wsV RX12 381 RX12 yX12_negate wsX12_negate) := goodIn_app (goodIn_sub (List.forall_mem_cons.mpr ⟨(List.mem_cons_of_mem _ (List.mem_append_left _ lm12)), List.forall_mem_cons.mpr ⟨(List.mem_cons_of_mem _ (List.mem_append_left _ lm13)), List.forall_mem_cons.mpr ⟨(List.mem_cons_of_mem _ (List.mem_append_left _ lm14)), List.forall_mem_cons.mpr ⟨(List.mem_cons_of_mem _ (List.mem_append_left _ lm4)), (fun _ h => absurd h List.not_mem_nil)⟩⟩⟩⟩) (by decide +kernel)) (goodIn_sub (by unfold wsX12_negate; exact List.forall_mem_cons.mpr ⟨(List.mem_cons_of_mem _ (List.mem_append_left _ lm15)), List.forall_mem_append.mpr ⟨List.forall_mem_cons.mpr ⟨(List.mem_cons_of_mem _ (List.mem_append_left _ lm0)), List.forall_mem_cons.mpr ⟨(List.mem_cons_of_mem _ (List.mem_append_left _ lm1)), List.forall_mem_cons.mpr ⟨(List.mem_cons_of_mem _ (List.mem_append_left _ lm6)), List.forall_mem_cons.mpr ⟨(List.mem_cons_of_mem _ (List.mem_append_left _ lm7)), List.forall_mem_cons.mpr ⟨(List.mem_cons_of_mem _ (List.mem_append_left _ lm8)), List.forall_mem_cons.mpr ⟨(List.mem_cons_of_mem _ (List.mem_append_left _ lm4)), List.forall_mem_cons.mpr ⟨(List.mem_cons_of_mem _ (List.mem_append_left _ lm9)), List.forall_mem_cons.mpr ⟨(List.mem_cons_of_mem _ (List.mem_append_left _ lm10)), List.forall_mem_cons.mpr ⟨(List.mem_cons_of_mem _ (List.mem_append_left _ lm11)), (fun _ h => absurd h List.not_mem_nil)⟩⟩⟩⟩⟩⟩⟩⟩⟩, (fun _ h => (List.mem_cons_of_mem _ (List.mem_append_right _ h)))⟩⟩) gw_X12_negate)
set_option maxHeartbeats 2000000 in
set_option maxRecDepth 100000 in
theorem m_operator (l : Launch) (D : va_G) (g : Nat → Nat) (ka : Nat → ClassId) (ad : Nat → Nat) (i : Nat → Nat → Int32) (r : Nat → Nat → Nat) (L : Nat → Nat → Int64) (d : Nat → Nat → UInt64) (x : Int32) (hO : OkI i) (hR : RS r) (sz : Nat) (hx0 : 0 ≤ x.toInt) (hx1 : x.toInt ≤ 65535) (hsg : (i 36 66).toInt ≤ 40) (hnb0 : (i 36 65).toInt = (nbS (stkS (i 419) (i 36 66).toInt.toNat) : Int) + 1) : Met l yX12_operator wsX12_operator ({ frames := 2, cells := 0, slots := 0, locals := 41 }) (va_Pc [.ref (g 36), .int x] (sj_B D (hwc g ka i r L d) (hT ka) sz (gx ad (va_A (hwc g ka i r L d) sz)))) (sj_Qi (S := (Nat → Nat → Int32)) D (fun v u => OkI u ∧ (∀ a b, ¬ ((a = 36 ∧ (b = 65 ∨ b = 66)) ∨ a = 418 ∨ a = 419) → u a b = i a b) ∧ ((0 : Int) ≤ v.toInt ∧ v.toInt ≤ 1) ∧ (((x.toInt ≠ 38 ∧ x.toInt ≠ 124 ∧ x.toInt ≠ 41) → v.toInt = 0) ∧ (u 36 66).toInt ≤ (i 36 66).toInt + 1) ∧ ((x.toInt = 38 ∨ x.toInt = 124) → (v.toInt = 1 ∧ (stkV (u 418) (u 36 65).toInt.toNat) = (mpop (bnd x.toInt) (stkV (i 418) (i 36 65).toInt.toNat) (stkS (i 419) (i 36 66).toInt.toNat)).1 ∧ (stkS (u 419) (u 36 66).toInt.toNat) = x.toInt :: (mpop (bnd x.toInt) (stkV (i 418) (i 36 65).toInt.toNat) (stkS (i 419) (i 36 66).toInt.toNat)).2)) ∧ (x.toInt = 41 → ((v.toInt = 0 ∧ (mpop (bnd x.toInt) (stkV (i 418) (i 36 65).toInt.toNat) (stkS (i 419) (i 36 66).toInt.toNat)).2 = []) ∨ (v.toInt = 1 ∧ ∃ (c : Int) (s2 : List Int), (mpop (bnd x.toInt) (stkV (i 418) (i 36 65).toInt.toNat) (stkS (i 419) (i 36 66).toInt.toNat)).2 = c :: s2 ∧ mneg (mpop (bnd x.toInt) (stkV (i 418) (i 36 65).toInt.toNat) (stkS (i 419) (i 36 66).toInt.toNat)).1 s2 = ((stkV (u 418) (u 36 65).toInt.toNat), (stkS (u 419) (u 36 66).toInt.toNat))))) ∧ (v.toInt = 1 → ((x.toInt ≠ 41 → (u 36 65).toInt = (nbS (stkS (u 419) (u 36 66).toInt.toNat) : Int)) ∧ (x.toInt = 41 → (u 36 65).toInt = (nbS (stkS (u 419) (u 36 66).toInt.toNat) : Int) + 1)))) (fun u => hwc g ka u r L d) (fun _ => []) (va_A (hwc g ka i r L d) sz)) 0 0 (va_A (hwc g ka i r L d) sz) := by
  refine x_met (Ex := gx ad) (cc := cX12_operator) (maxL := 2) (ret := (some .boolean)) (by decide) rfl (Nat.le_of_ble_eq_true rfl) ?_
  intro p e s m below meth c A ls hx hb hr hml hts hown hlocks hA hS hH hK hE hl
  have hown : s.vm.findClass RX12 = some m.cls := hown
  have in12 : ∀ w ∈ wsX120, w ∈ wsX12_operator := (fun _ h => (List.mem_cons_of_mem _ (List.mem_append_right _ h)))
  have wd0 := hts (.fieldLink RX12 369 "StoryDeskModel" "signed" "I") (List.mem_cons_of_mem _ (List.mem_append_left _ lm0))
  have wd1 := hts (.fieldLink RX12 366 "StoryDeskModel" "signs" "[C") (List.mem_cons_of_mem _ (List.mem_append_left _ lm1))
  have hl : lv_has ls 2 [(0, .ref (g 36)), (1, .int x)] := hl
  have hK : va_K D vwCl (hT ka) s := hK
  have hb66 : (0 : Int) ≤ (i 36 66).toInt ∧ (i 36 66).toInt ≤ 42 := hO 36 66
  have hb65 : (0 : Int) ≤ (i 36 65).toInt ∧ (i 36 65).toInt ≤ 42 := hO 36 65
  refine lv_iload_n hx hb dX12_operator_0 rfl (lv_at hl 1 rfl) ?_
  refine lv_bipush (v := 38) hx hb dX12_operator_1 (by decide) ?_
  refine lv_icmp_eq (tgt := 20) hx hb dX12_operator_3 (by decide) (fun c_1 => ?_) (fun c_1 => ?_)
  · skip
    have h_2 := s_eq (rfl : x.toInt = _) (show (38 : Int32).toInt = 38 from rfl) c_1
    -- loop at 20
    have lp_3 : ∀ (fuel_lp_3 : Nat)  (j1 : Nat → Nat → Int32) (H : Heap) (locs : List Loc) (ls : Array Slot), ((j1 36 66).toInt).toNat < fuel_lp_3 → (j1 36 66).toInt ≤ (i 36 66).toInt ∧ 0 ≤ (j1 36 66).toInt → mpop (bnd x.toInt) (stkV (j1 418) (j1 36 65).toInt.toNat) (stkS (i 419) (j1 36 66).toInt.toNat) = mpop (bnd x.toInt) (stkV (i 418) (i 36 65).toInt.toNat) (stkS (i 419) (i 36 66).toInt.toNat) → (j1 36 65).toInt = (nbS (stkS (i 419) (j1 36 66).toInt.toNat) : Int) + 1 → OkI j1 → (∀ a b, ¬ ((a = 36 ∧ (b = 65 ∨ b = 66)) ∨ a = 418) → j1 a b = i a b) → lv_has ls 2 [(0, .ref (g 36)), (1, .int x)] → sj_H D A (hwc g ka j1 r L d) H → va_S A s.heap H locs → W p l e (headSpec wsX12_operator ({ frames := 2, cells := 0, slots := 0, locals := 41 })).room s m ([.ref (g 36), .int x] : List Value).toArray below meth c H locs 0 0 (MQ below (sj_Qi (S := (Nat → Nat → Int32)) D (fun v u => OkI u ∧ (∀ a b, ¬ ((a = 36 ∧ (b = 65 ∨ b = 66)) ∨ a = 418 ∨ a = 419) → u a b = i a b) ∧ ((0 : Int) ≤ v.toInt ∧ v.toInt ≤ 1) ∧ (((x.toInt ≠ 38 ∧ x.toInt ≠ 124 ∧ x.toInt ≠ 41) → v.toInt = 0) ∧ (u 36 66).toInt ≤ (i 36 66).toInt + 1) ∧ ((x.toInt = 38 ∨ x.toInt = 124) → (v.toInt = 1 ∧ (stkV (u 418) (u 36 65).toInt.toNat) = (mpop (bnd x.toInt) (stkV (i 418) (i 36 65).toInt.toNat) (stkS (i 419) (i 36 66).toInt.toNat)).1 ∧ (stkS (u 419) (u 36 66).toInt.toNat) = x.toInt :: (mpop (bnd x.toInt) (stkV (i 418) (i 36 65).toInt.toNat) (stkS (i 419) (i 36 66).toInt.toNat)).2)) ∧ (x.toInt = 41 → ((v.toInt = 0 ∧ (mpop (bnd x.toInt) (stkV (i 418) (i 36 65).toInt.toNat) (stkS (i 419) (i 36 66).toInt.toNat)).2 = []) ∨ (v.toInt = 1 ∧ ∃ (c : Int) (s2 : List Int), (mpop (bnd x.toInt) (stkV (i 418) (i 36 65).toInt.toNat) (stkS (i 419) (i 36 66).toInt.toNat)).2 = c :: s2 ∧ mneg (mpop (bnd x.toInt) (stkV (i 418) (i 36 65).toInt.toNat) (stkS (i 419) (i 36 66).toInt.toNat)).1 s2 = ((stkV (u 418) (u 36 65).toInt.toNat), (stkS (u 419) (u 36 66).toInt.toNat))))) ∧ (v.toInt = 1 → ((x.toInt ≠ 41 → (u 36 65).toInt = (nbS (stkS (u 419) (u 36 66).toInt.toNat) : Int)) ∧ (x.toInt = 41 → (u 36 65).toInt = (nbS (stkS (u 419) (u 36 66).toInt.toNat) : Int) + 1)))) (fun u => hwc g ka u r L d) (fun _ => []) A) ([.ref (g 36), .int x] : List Value).toArray s 0 0 A) (F0 m 20 ls []) := by
      intro fuel_lp_3
      induction fuel_lp_3 with
      | zero => intros; omega
      | succ fuel_lp_3 ih_lp_3 =>
        intro j1 H locs ls hm hi_lp_3_0 hi_lp_3_1 hi_lp_3_2 hO_j1 hfr_j1 hl hH hS
        have hnv := hi_lp_3_2
        refine lv_aload_n hx hb dX12_operator_20 rfl (lv_at hl 0 rfl) ?_
        have bx_4 : (0 : Int) ≤ (j1 36 66).toInt ∧ (j1 36 66).toInt ≤ 42 := hO_j1 36 66
        refine h_geti (ci := 12) (C := RX12) (F := TX12) (N := 86) hx hb hts in12 hown hK hH (by decide) (rfl : kd 36 = 12) (by decide) rfl 66 (by decide) wd0 (fun _ h9 => h9) (by decide) rfl dX12_operator_21 ?_
        refine lv_if_le (tgt := 71) hx hb dX12_operator_24 (by decide) (fun c_5 => ?_) (fun c_5 => ?_)
        · skip
          have h_6 := s_le (rfl : (j1 36 66).toInt = _) (show (0 : Int32).toInt = 0 from rfl) c_5
          refine lv_iload_n hx hb dX12_operator_71 rfl (lv_at hl 1 rfl) ?_
          refine lv_bipush (v := 41) hx hb dX12_operator_72 (by decide) ?_
          refine lv_icmp_eq (tgt := 99) hx hb dX12_operator_74 (by decide) (fun h => absurd h (p_ne (rfl : x.toInt = _) (show (41 : Int32).toInt = 41 from rfl) (by omega))) (fun _ => ?_)
          refine lv_aload_n hx hb dX12_operator_77 rfl (lv_at hl 0 rfl) ?_
          refine h_getr (ci := 12) (C := RX12) (F := TX12) (N := 86) hx hb hts in12 hown hK hH (by decide) (rfl : kd 36 = 12) (by decide) rfl 64 (by decide) wd1 (fun _ h9 => h9) (by decide) rfl (t := 419) (hR 36 64 rfl) (by decide) dX12_operator_78 ?_
          refine lv_aload_n hx hb dX12_operator_81 rfl (lv_at hl 0 rfl) ?_
          refine h_geti (ci := 12) (C := RX12) (F := TX12) (N := 86) hx hb hts in12 hown hK hH (by decide) (rfl : kd 36 = 12) (by decide) rfl 66 (by decide) wd0 (fun _ h9 => h9) (by decide) rfl dX12_operator_82 ?_
          refine lv_iload_n hx hb dX12_operator_85 rfl (lv_at hl 1 rfl) ?_
          obtain ⟨z_7, ez_7⟩ : ∃ z, vp_nar .char x = z := ⟨_, rfl⟩
          have hz_7 : z_7.toInt = x.toInt := by rw [← ez_7, s_narc (rfl : x.toInt = _) (by omega) (by omega)] <;> exact (rfl : x.toInt = _)
          have hO_8 := okp hO_j1 (n := 419) (k := ((j1 36 66).toInt).toNat) (v := z_7) (show (0 : Int) ≤ (z_7 : Int32).toInt ∧ (z_7 : Int32).toInt ≤ 65535 from ⟨by omega, by omega⟩)
          refine h_cast hx hb hK hH hS (by decide) (rfl : kd 419 = 14) (s_vin (N := 42) (rfl : (j1 36 66).toInt = _) (rfl : ln 419 = 42) (by omega) (by omega)) dX12_operator_86 (fun H locs hH hS => ?_)
          rw [ez_7] at hH
          rw [s_cl (show (j1 36 66).toInt = (j1 36 66).toInt by omega)] at hH
          refine lv_aload_n hx hb dX12_operator_87 rfl (lv_at hl 0 rfl) ?_
          refine lv_dup hx hb dX12_operator_88 rfl ?_
          refine h_geti (ci := 12) (C := RX12) (F := TX12) (N := 86) hx hb hts in12 hown hK hH (by decide) (rfl : kd 36 = 12) (by decide) rfl 66 (by decide) wd0 (fun _ h9 => h9) (by decide) rfl dX12_operator_89 ?_
          refine sj_i (y := (j1 36 66)) (congrFun (up2_n _ _ (by decide)) _) ?_
          refine lv_iconst (v := 1) hx hb dX12_operator_92 (by decide) ?_
          refine lv_iadd hx hb dX12_operator_93 ?_
          obtain ⟨z_9, ez_9, hz_9⟩ := s_add (rfl : (j1 36 66).toInt = _) (show (1 : Int32).toInt = 1 from rfl) (by omega) (by omega)
          refine sj_i ez_9 ?_
          have hO_10 := okp hO_8 (n := 36) (k := 66) (v := z_9) (show (0 : Int) ≤ (z_9 : Int32).toInt ∧ (z_9 : Int32).toInt ≤ 42 from ⟨by omega, by omega⟩)
          refine h_puti (ty := .int) (ci := 12) (C := RX12) (F := TX12) (N := 86) hx hb hts in12 tyX12 tyX12_ok nmX12 hown hK hH hS (by decide) (rfl : kd 36 = 12) (by decide) rfl 66 (by decide) wd0 (fun _ h9 => h9) rfl (by decide +kernel) rfl rfl (by decide) rfl dX12_operator_94 (fun H locs hH hS => ?_)
          refine lv_iconst (v := 1) hx hb dX12_operator_97 (by decide) ?_
          have hlv_11 : (1 : Int32).toInt = 1 := rfl
          have hw_12 : ((up2 (up2 j1 419 ((j1 36 66).toInt).toNat z_7) 36 66 z_9) 36 65).toInt = ((j1 36 65) : Int32).toInt := congrArg Int32.toInt (((up2_k _ _ (by decide)).trans (congrFun (up2_n _ _ (by decide)) _)))
          have hw_13 : ((up2 (up2 j1 419 ((j1 36 66).toInt).toNat z_7) 36 66 z_9) 36 66).toInt = (z_9 : Int32).toInt := congrArg Int32.toInt ((up2_at _ _ _ _))
          have hw_14 : ((up2 (up2 j1 419 ((j1 36 66).toInt).toNat z_7) 36 66 z_9) 36 65).toInt = ((j1 36 65) : Int32).toInt := congrArg Int32.toInt (((up2_k _ _ (by decide)).trans (congrFun (up2_n _ _ (by decide)) _)))
          have hw_15 : ((up2 (up2 j1 419 ((j1 36 66).toInt).toNat z_7) 36 66 z_9) 36 66).toInt = (z_9 : Int32).toInt := congrArg Int32.toInt ((up2_at _ _ _ _))
          have hP : mpop (bnd x.toInt) (stkV (i 418) (i 36 65).toInt.toNat) (stkS (i 419) (i 36 66).toInt.toNat) = ((stkV (j1 418) (j1 36 65).toInt.toNat), (stkS (i 419) (j1 36 66).toInt.toNat)) := by
              have h9 := hi_lp_3_1
              by_cases q : (j1 36 66).toInt ≤ 0
              · rw [show (j1 36 66).toInt.toNat = 0 by omega] at h9 ⊢
                exact h9.symm
              · have hSs := stkS_s (f := i 419) (n := (j1 36 66).toInt) (m := ((j1 36 66).toInt - 1).toNat) (by omega)
                rw [hSs, mpop_stop (by omega), ← hSs] at h9
                exact h9.symm
          have h418 : (up2 (up2 j1 419 ((j1 36 66).toInt).toNat z_7) 36 66 z_9) 418 = j1 418 := (up2_n _ _ (by decide)).trans (up2_n _ _ (by decide))
          have h419 : (up2 (up2 j1 419 ((j1 36 66).toInt).toNat z_7) 36 66 z_9) 419 = upd (i 419) ((j1 36 66).toInt).toNat z_7 := (up2_n _ _ (by decide)).trans ((up2_r _ _ _ _).trans (congrArg (fun f => upd f ((j1 36 66).toInt).toNat z_7) (funext fun b9 => hfr_j1 419 b9 (by omega))))
          have hst9 : (stkS ((up2 (up2 j1 419 ((j1 36 66).toInt).toNat z_7) 36 66 z_9) 419) ((up2 (up2 j1 419 ((j1 36 66).toInt).toNat z_7) 36 66 z_9) 36 66).toInt.toNat) = x.toInt :: (stkS (i 419) (j1 36 66).toInt.toNat) := by rw [h419, show ((up2 (up2 j1 419 ((j1 36 66).toInt).toNat z_7) 36 66 z_9) 36 66).toInt.toNat = ((j1 36 66).toInt).toNat + 1 by omega, stkS_push, show (z_7 : Int32).toInt = x.toInt by omega]
          exact sj_zret hx hb hr hlocks (by decide +kernel) hS (up2 (up2 j1 419 ((j1 36 66).toInt).toNat z_7) 36 66 z_9) ⟨hO_10, (fun a b ha => ((up2_o _ _ (by omega)).trans ((up2_o _ _ (by omega)).trans (hfr_j1 a b (by omega))))), ⟨by decide, by decide⟩, ⟨fun h => by omega, by omega⟩, (fun h => ⟨by omega, by rw [h418, show ((up2 (up2 j1 419 ((j1 36 66).toInt).toNat z_7) 36 66 z_9) 36 65).toInt = (j1 36 65).toInt by omega, hP], by rw [hst9, hP]⟩), (fun h => by exfalso; omega), (fun h => ⟨fun h2 => by rw [hst9]; have := nbS_or x.toInt (stkS (i 419) (j1 36 66).toInt.toNat); omega, fun h2 => by exfalso; omega⟩)⟩ hH (sj_Knil hK) (Nat.le_of_ble_eq_true rfl) (Nat.le_of_ble_eq_true rfl) dX12_operator_98
        · skip
          have h_16 := s_nle (rfl : (j1 36 66).toInt = _) (show (0 : Int32).toInt = 0 from rfl) c_5
          refine lv_aload_n hx hb dX12_operator_27 rfl (lv_at hl 0 rfl) ?_
          refine h_getr (ci := 12) (C := RX12) (F := TX12) (N := 86) hx hb hts in12 hown hK hH (by decide) (rfl : kd 36 = 12) (by decide) rfl 64 (by decide) wd1 (fun _ h9 => h9) (by decide) rfl (t := 419) (hR 36 64 rfl) (by decide) dX12_operator_28 ?_
          refine lv_aload_n hx hb dX12_operator_31 rfl (lv_at hl 0 rfl) ?_
          refine h_geti (ci := 12) (C := RX12) (F := TX12) (N := 86) hx hb hts in12 hown hK hH (by decide) (rfl : kd 36 = 12) (by decide) rfl 66 (by decide) wd0 (fun _ h9 => h9) (by decide) rfl dX12_operator_32 ?_
          refine lv_iconst (v := 1) hx hb dX12_operator_35 (by decide) ?_
          refine lv_isub hx hb dX12_operator_36 ?_
          obtain ⟨z_17, ez_17, hz_17⟩ := s_sub (rfl : (j1 36 66).toInt = _) (show (1 : Int32).toInt = 1 from rfl) (by omega) (by omega)
          refine sj_i ez_17 ?_
          have bx_18 : (0 : Int) ≤ (i 419 ((j1 36 66).toInt - 1).toNat).toInt ∧ (i 419 ((j1 36 66).toInt - 1).toNat).toInt ≤ 65535 := hO 419 ((j1 36 66).toInt - 1).toNat
          refine h_cald hx hb hK hH (by decide) (rfl : kd 419 = 14) (s_vin (N := 42) (rfl : z_17.toInt = _) (rfl : ln 419 = 42) (by omega) (by omega)) dX12_operator_37 ?_
          have ek_19 : z_17.toNatClampNeg = ((j1 36 66).toInt - 1).toNat := (s_cl (show z_17.toInt = (j1 36 66).toInt - 1 by omega))
          refine sj_i (y := (i 419 ((j1 36 66).toInt - 1).toNat)) (by rw [ek_19]; exact (hfr_j1 419 ((j1 36 66).toInt - 1).toNat (by omega))) ?_
          refine lv_bipush (v := 40) hx hb dX12_operator_38 (by decide) ?_
          refine lv_icmp_eq (tgt := 71) hx hb dX12_operator_40 (by decide) (fun c_20 => ?_) (fun c_20 => ?_)
          · skip
            have h_21 := s_eq (rfl : (i 419 ((j1 36 66).toInt - 1).toNat).toInt = _) (show (40 : Int32).toInt = 40 from rfl) c_20
            refine lv_iload_n hx hb dX12_operator_71 rfl (lv_at hl 1 rfl) ?_
            refine lv_bipush (v := 41) hx hb dX12_operator_72 (by decide) ?_
            refine lv_icmp_eq (tgt := 99) hx hb dX12_operator_74 (by decide) (fun h => absurd h (p_ne (rfl : x.toInt = _) (show (41 : Int32).toInt = 41 from rfl) (by omega))) (fun _ => ?_)
            refine lv_aload_n hx hb dX12_operator_77 rfl (lv_at hl 0 rfl) ?_
            refine h_getr (ci := 12) (C := RX12) (F := TX12) (N := 86) hx hb hts in12 hown hK hH (by decide) (rfl : kd 36 = 12) (by decide) rfl 64 (by decide) wd1 (fun _ h9 => h9) (by decide) rfl (t := 419) (hR 36 64 rfl) (by decide) dX12_operator_78 ?_
            refine lv_aload_n hx hb dX12_operator_81 rfl (lv_at hl 0 rfl) ?_
            refine h_geti (ci := 12) (C := RX12) (F := TX12) (N := 86) hx hb hts in12 hown hK hH (by decide) (rfl : kd 36 = 12) (by decide) rfl 66 (by decide) wd0 (fun _ h9 => h9) (by decide) rfl dX12_operator_82 ?_
            refine lv_iload_n hx hb dX12_operator_85 rfl (lv_at hl 1 rfl) ?_
            obtain ⟨z_22, ez_22⟩ : ∃ z, vp_nar .char x = z := ⟨_, rfl⟩
            have hz_22 : z_22.toInt = x.toInt := by rw [← ez_22, s_narc (rfl : x.toInt = _) (by omega) (by omega)] <;> exact (rfl : x.toInt = _)
            have hO_23 := okp hO_j1 (n := 419) (k := ((j1 36 66).toInt).toNat) (v := z_22) (show (0 : Int) ≤ (z_22 : Int32).toInt ∧ (z_22 : Int32).toInt ≤ 65535 from ⟨by omega, by omega⟩)
            refine h_cast hx hb hK hH hS (by decide) (rfl : kd 419 = 14) (s_vin (N := 42) (rfl : (j1 36 66).toInt = _) (rfl : ln 419 = 42) (by omega) (by omega)) dX12_operator_86 (fun H locs hH hS => ?_)
            rw [ez_22] at hH
            rw [s_cl (show (j1 36 66).toInt = (j1 36 66).toInt by omega)] at hH
            refine lv_aload_n hx hb dX12_operator_87 rfl (lv_at hl 0 rfl) ?_
            refine lv_dup hx hb dX12_operator_88 rfl ?_
            refine h_geti (ci := 12) (C := RX12) (F := TX12) (N := 86) hx hb hts in12 hown hK hH (by decide) (rfl : kd 36 = 12) (by decide) rfl 66 (by decide) wd0 (fun _ h9 => h9) (by decide) rfl dX12_operator_89 ?_
            refine sj_i (y := (j1 36 66)) (congrFun (up2_n _ _ (by decide)) _) ?_
            refine lv_iconst (v := 1) hx hb dX12_operator_92 (by decide) ?_
            refine lv_iadd hx hb dX12_operator_93 ?_
            obtain ⟨z_24, ez_24, hz_24⟩ := s_add (rfl : (j1 36 66).toInt = _) (show (1 : Int32).toInt = 1 from rfl) (by omega) (by omega)
            refine sj_i ez_24 ?_
            have hO_25 := okp hO_23 (n := 36) (k := 66) (v := z_24) (show (0 : Int) ≤ (z_24 : Int32).toInt ∧ (z_24 : Int32).toInt ≤ 42 from ⟨by omega, by omega⟩)
            refine h_puti (ty := .int) (ci := 12) (C := RX12) (F := TX12) (N := 86) hx hb hts in12 tyX12 tyX12_ok nmX12 hown hK hH hS (by decide) (rfl : kd 36 = 12) (by decide) rfl 66 (by decide) wd0 (fun _ h9 => h9) rfl (by decide +kernel) rfl rfl (by decide) rfl dX12_operator_94 (fun H locs hH hS => ?_)
            refine lv_iconst (v := 1) hx hb dX12_operator_97 (by decide) ?_
            have hlv_26 : (1 : Int32).toInt = 1 := rfl
            have hw_27 : ((up2 (up2 j1 419 ((j1 36 66).toInt).toNat z_22) 36 66 z_24) 36 65).toInt = ((j1 36 65) : Int32).toInt := congrArg Int32.toInt (((up2_k _ _ (by decide)).trans (congrFun (up2_n _ _ (by decide)) _)))
            have hw_28 : ((up2 (up2 j1 419 ((j1 36 66).toInt).toNat z_22) 36 66 z_24) 36 66).toInt = (z_24 : Int32).toInt := congrArg Int32.toInt ((up2_at _ _ _ _))
            have hw_29 : ((up2 (up2 j1 419 ((j1 36 66).toInt).toNat z_22) 36 66 z_24) 36 65).toInt = ((j1 36 65) : Int32).toInt := congrArg Int32.toInt (((up2_k _ _ (by decide)).trans (congrFun (up2_n _ _ (by decide)) _)))
            have hw_30 : ((up2 (up2 j1 419 ((j1 36 66).toInt).toNat z_22) 36 66 z_24) 36 66).toInt = (z_24 : Int32).toInt := congrArg Int32.toInt ((up2_at _ _ _ _))
            have hP : mpop (bnd x.toInt) (stkV (i 418) (i 36 65).toInt.toNat) (stkS (i 419) (i 36 66).toInt.toNat) = ((stkV (j1 418) (j1 36 65).toInt.toNat), (stkS (i 419) (j1 36 66).toInt.toNat)) := by
                have h9 := hi_lp_3_1
                by_cases q : (j1 36 66).toInt ≤ 0
                · rw [show (j1 36 66).toInt.toNat = 0 by omega] at h9 ⊢
                  exact h9.symm
                · have hSs := stkS_s (f := i 419) (n := (j1 36 66).toInt) (m := ((j1 36 66).toInt - 1).toNat) (by omega)
                  rw [hSs, mpop_stop (by omega), ← hSs] at h9
                  exact h9.symm
            have h418 : (up2 (up2 j1 419 ((j1 36 66).toInt).toNat z_22) 36 66 z_24) 418 = j1 418 := (up2_n _ _ (by decide)).trans (up2_n _ _ (by decide))
            have h419 : (up2 (up2 j1 419 ((j1 36 66).toInt).toNat z_22) 36 66 z_24) 419 = upd (i 419) ((j1 36 66).toInt).toNat z_22 := (up2_n _ _ (by decide)).trans ((up2_r _ _ _ _).trans (congrArg (fun f => upd f ((j1 36 66).toInt).toNat z_22) (funext fun b9 => hfr_j1 419 b9 (by omega))))
            have hst9 : (stkS ((up2 (up2 j1 419 ((j1 36 66).toInt).toNat z_22) 36 66 z_24) 419) ((up2 (up2 j1 419 ((j1 36 66).toInt).toNat z_22) 36 66 z_24) 36 66).toInt.toNat) = x.toInt :: (stkS (i 419) (j1 36 66).toInt.toNat) := by rw [h419, show ((up2 (up2 j1 419 ((j1 36 66).toInt).toNat z_22) 36 66 z_24) 36 66).toInt.toNat = ((j1 36 66).toInt).toNat + 1 by omega, stkS_push, show (z_22 : Int32).toInt = x.toInt by omega]
            exact sj_zret hx hb hr hlocks (by decide +kernel) hS (up2 (up2 j1 419 ((j1 36 66).toInt).toNat z_22) 36 66 z_24) ⟨hO_25, (fun a b ha => ((up2_o _ _ (by omega)).trans ((up2_o _ _ (by omega)).trans (hfr_j1 a b (by omega))))), ⟨by decide, by decide⟩, ⟨fun h => by omega, by omega⟩, (fun h => ⟨by omega, by rw [h418, show ((up2 (up2 j1 419 ((j1 36 66).toInt).toNat z_22) 36 66 z_24) 36 65).toInt = (j1 36 65).toInt by omega, hP], by rw [hst9, hP]⟩), (fun h => by exfalso; omega), (fun h => ⟨fun h2 => by rw [hst9]; have := nbS_or x.toInt (stkS (i 419) (j1 36 66).toInt.toNat); omega, fun h2 => by exfalso; omega⟩)⟩ hH (sj_Knil hK) (Nat.le_of_ble_eq_true rfl) (Nat.le_of_ble_eq_true rfl) dX12_operator_98
          · skip
            have h_31 := s_ne (rfl : (i 419 ((j1 36 66).toInt - 1).toNat).toInt = _) (show (40 : Int32).toInt = 40 from rfl) c_20
            refine lv_aload_n hx hb dX12_operator_43 rfl (lv_at hl 0 rfl) ?_
            refine h_getr (ci := 12) (C := RX12) (F := TX12) (N := 86) hx hb hts in12 hown hK hH (by decide) (rfl : kd 36 = 12) (by decide) rfl 64 (by decide) wd1 (fun _ h9 => h9) (by decide) rfl (t := 419) (hR 36 64 rfl) (by decide) dX12_operator_44 ?_
            refine lv_aload_n hx hb dX12_operator_47 rfl (lv_at hl 0 rfl) ?_
            refine h_geti (ci := 12) (C := RX12) (F := TX12) (N := 86) hx hb hts in12 hown hK hH (by decide) (rfl : kd 36 = 12) (by decide) rfl 66 (by decide) wd0 (fun _ h9 => h9) (by decide) rfl dX12_operator_48 ?_
            refine lv_iconst (v := 1) hx hb dX12_operator_51 (by decide) ?_
            refine lv_isub hx hb dX12_operator_52 ?_
            obtain ⟨z_32, ez_32, hz_32⟩ := s_sub (rfl : (j1 36 66).toInt = _) (show (1 : Int32).toInt = 1 from rfl) (by omega) (by omega)
            refine sj_i ez_32 ?_
            refine h_cald hx hb hK hH (by decide) (rfl : kd 419 = 14) (s_vin (N := 42) (rfl : z_32.toInt = _) (rfl : ln 419 = 42) (by omega) (by omega)) dX12_operator_53 ?_
            have ek_33 : z_32.toNatClampNeg = ((j1 36 66).toInt - 1).toNat := (s_cl (show z_32.toInt = (j1 36 66).toInt - 1 by omega))
            refine sj_i (y := (i 419 ((j1 36 66).toInt - 1).toNat)) (by rw [ek_33]; exact (hfr_j1 419 ((j1 36 66).toInt - 1).toNat (by omega))) ?_
            refine x_calli (va_runS (As := [.int (i 419 ((j1 36 66).toInt - 1).toNat)]) (rest := []) ⟨hx, hb, hml, hown, hts⟩ (m_binding l D g ka ad j1 r L d (i 419 ((j1 36 66).toInt - 1).toNat) hO_j1 hR H.size ) (cwS 1 hts gX12_operator_X12_binding rfl rfl rfl (by decide +kernel) ⟨(Nat.le_of_ble_eq_true rfl), (Nat.le_of_ble_eq_true rfl)⟩) (x_preS hH hK gxb (gxw hE hS (x_F hH hS hA))) rfl rfl hl.1 rfl (lv_room (Nat.le_of_ble_eq_true rfl)) dX12_operator_54 ⟨(Nat.le_of_ble_eq_true rfl), (Nat.le_of_ble_eq_true rfl)⟩) hH hS hA rfl rfl (fun r_34 _ H locs hw_35 hH hS => ?_)
            obtain ⟨hr_37, he_38⟩ := hw_35
            have hr_37 : (0 : Int) ≤ r_34.toInt ∧ r_34.toInt ≤ 2 := hr_37
            refine lv_iload_n hx hb dX12_operator_57 rfl (lv_at hl 1 rfl) ?_
            refine x_calli (va_runS (As := [.int x]) (rest := [.int r_34]) ⟨hx, hb, hml, hown, hts⟩ (m_binding l D g ka ad j1 r L d x hO_j1 hR H.size ) (cwS 1 hts gX12_operator_X12_binding rfl rfl rfl (by decide +kernel) ⟨(Nat.le_of_ble_eq_true rfl), (Nat.le_of_ble_eq_true rfl)⟩) (x_preS hH hK gxb (gxw hE hS (x_F hH hS hA))) rfl rfl hl.1 rfl (lv_room (Nat.le_of_ble_eq_true rfl)) dX12_operator_58 ⟨(Nat.le_of_ble_eq_true rfl), (Nat.le_of_ble_eq_true rfl)⟩) hH hS hA rfl rfl (fun r_39 _ H locs hw_40 hH hS => ?_)
            obtain ⟨hr_42, he_43⟩ := hw_40
            have hr_42 : (0 : Int) ≤ r_39.toInt ∧ r_39.toInt ≤ 2 := hr_42
            refine lv_icmp_lt (tgt := 71) hx hb dX12_operator_61 (by decide) (fun c_44 => ?_) (fun c_44 => ?_)
            · skip
              have h_45 := s_lt (rfl : r_34.toInt = _) (rfl : r_39.toInt = _) c_44
              refine lv_iload_n hx hb dX12_operator_71 rfl (lv_at hl 1 rfl) ?_
              refine lv_bipush (v := 41) hx hb dX12_operator_72 (by decide) ?_
              refine lv_icmp_eq (tgt := 99) hx hb dX12_operator_74 (by decide) (fun h => absurd h (p_ne (rfl : x.toInt = _) (show (41 : Int32).toInt = 41 from rfl) (by omega))) (fun _ => ?_)
              refine lv_aload_n hx hb dX12_operator_77 rfl (lv_at hl 0 rfl) ?_
              refine h_getr (ci := 12) (C := RX12) (F := TX12) (N := 86) hx hb hts in12 hown hK hH (by decide) (rfl : kd 36 = 12) (by decide) rfl 64 (by decide) wd1 (fun _ h9 => h9) (by decide) rfl (t := 419) (hR 36 64 rfl) (by decide) dX12_operator_78 ?_
              refine lv_aload_n hx hb dX12_operator_81 rfl (lv_at hl 0 rfl) ?_
              refine h_geti (ci := 12) (C := RX12) (F := TX12) (N := 86) hx hb hts in12 hown hK hH (by decide) (rfl : kd 36 = 12) (by decide) rfl 66 (by decide) wd0 (fun _ h9 => h9) (by decide) rfl dX12_operator_82 ?_
              refine lv_iload_n hx hb dX12_operator_85 rfl (lv_at hl 1 rfl) ?_
              obtain ⟨z_46, ez_46⟩ : ∃ z, vp_nar .char x = z := ⟨_, rfl⟩
              have hz_46 : z_46.toInt = x.toInt := by rw [← ez_46, s_narc (rfl : x.toInt = _) (by omega) (by omega)] <;> exact (rfl : x.toInt = _)
              have hO_47 := okp hO_j1 (n := 419) (k := ((j1 36 66).toInt).toNat) (v := z_46) (show (0 : Int) ≤ (z_46 : Int32).toInt ∧ (z_46 : Int32).toInt ≤ 65535 from ⟨by omega, by omega⟩)
              refine h_cast hx hb hK hH hS (by decide) (rfl : kd 419 = 14) (s_vin (N := 42) (rfl : (j1 36 66).toInt = _) (rfl : ln 419 = 42) (by omega) (by omega)) dX12_operator_86 (fun H locs hH hS => ?_)
              rw [ez_46] at hH
              rw [s_cl (show (j1 36 66).toInt = (j1 36 66).toInt by omega)] at hH
              refine lv_aload_n hx hb dX12_operator_87 rfl (lv_at hl 0 rfl) ?_
              refine lv_dup hx hb dX12_operator_88 rfl ?_
              refine h_geti (ci := 12) (C := RX12) (F := TX12) (N := 86) hx hb hts in12 hown hK hH (by decide) (rfl : kd 36 = 12) (by decide) rfl 66 (by decide) wd0 (fun _ h9 => h9) (by decide) rfl dX12_operator_89 ?_
              refine sj_i (y := (j1 36 66)) (congrFun (up2_n _ _ (by decide)) _) ?_
              refine lv_iconst (v := 1) hx hb dX12_operator_92 (by decide) ?_
              refine lv_iadd hx hb dX12_operator_93 ?_
              obtain ⟨z_48, ez_48, hz_48⟩ := s_add (rfl : (j1 36 66).toInt = _) (show (1 : Int32).toInt = 1 from rfl) (by omega) (by omega)
              refine sj_i ez_48 ?_
              have hO_49 := okp hO_47 (n := 36) (k := 66) (v := z_48) (show (0 : Int) ≤ (z_48 : Int32).toInt ∧ (z_48 : Int32).toInt ≤ 42 from ⟨by omega, by omega⟩)
              refine h_puti (ty := .int) (ci := 12) (C := RX12) (F := TX12) (N := 86) hx hb hts in12 tyX12 tyX12_ok nmX12 hown hK hH hS (by decide) (rfl : kd 36 = 12) (by decide) rfl 66 (by decide) wd0 (fun _ h9 => h9) rfl (by decide +kernel) rfl rfl (by decide) rfl dX12_operator_94 (fun H locs hH hS => ?_)
              refine lv_iconst (v := 1) hx hb dX12_operator_97 (by decide) ?_
              have hlv_50 : (1 : Int32).toInt = 1 := rfl
              have hw_51 : ((up2 (up2 j1 419 ((j1 36 66).toInt).toNat z_46) 36 66 z_48) 36 65).toInt = ((j1 36 65) : Int32).toInt := congrArg Int32.toInt (((up2_k _ _ (by decide)).trans (congrFun (up2_n _ _ (by decide)) _)))
              have hw_52 : ((up2 (up2 j1 419 ((j1 36 66).toInt).toNat z_46) 36 66 z_48) 36 66).toInt = (z_48 : Int32).toInt := congrArg Int32.toInt ((up2_at _ _ _ _))
              have hw_53 : ((up2 (up2 j1 419 ((j1 36 66).toInt).toNat z_46) 36 66 z_48) 36 65).toInt = ((j1 36 65) : Int32).toInt := congrArg Int32.toInt (((up2_k _ _ (by decide)).trans (congrFun (up2_n _ _ (by decide)) _)))
              have hw_54 : ((up2 (up2 j1 419 ((j1 36 66).toInt).toNat z_46) 36 66 z_48) 36 66).toInt = (z_48 : Int32).toInt := congrArg Int32.toInt ((up2_at _ _ _ _))
              have hP : mpop (bnd x.toInt) (stkV (i 418) (i 36 65).toInt.toNat) (stkS (i 419) (i 36 66).toInt.toNat) = ((stkV (j1 418) (j1 36 65).toInt.toNat), (stkS (i 419) (j1 36 66).toInt.toNat)) := by
                  have h9 := hi_lp_3_1
                  by_cases q : (j1 36 66).toInt ≤ 0
                  · rw [show (j1 36 66).toInt.toNat = 0 by omega] at h9 ⊢
                    exact h9.symm
                  · have hSs := stkS_s (f := i 419) (n := (j1 36 66).toInt) (m := ((j1 36 66).toInt - 1).toNat) (by omega)
                    rw [hSs, mpop_stop (by omega), ← hSs] at h9
                    exact h9.symm
              have h418 : (up2 (up2 j1 419 ((j1 36 66).toInt).toNat z_46) 36 66 z_48) 418 = j1 418 := (up2_n _ _ (by decide)).trans (up2_n _ _ (by decide))
              have h419 : (up2 (up2 j1 419 ((j1 36 66).toInt).toNat z_46) 36 66 z_48) 419 = upd (i 419) ((j1 36 66).toInt).toNat z_46 := (up2_n _ _ (by decide)).trans ((up2_r _ _ _ _).trans (congrArg (fun f => upd f ((j1 36 66).toInt).toNat z_46) (funext fun b9 => hfr_j1 419 b9 (by omega))))
              have hst9 : (stkS ((up2 (up2 j1 419 ((j1 36 66).toInt).toNat z_46) 36 66 z_48) 419) ((up2 (up2 j1 419 ((j1 36 66).toInt).toNat z_46) 36 66 z_48) 36 66).toInt.toNat) = x.toInt :: (stkS (i 419) (j1 36 66).toInt.toNat) := by rw [h419, show ((up2 (up2 j1 419 ((j1 36 66).toInt).toNat z_46) 36 66 z_48) 36 66).toInt.toNat = ((j1 36 66).toInt).toNat + 1 by omega, stkS_push, show (z_46 : Int32).toInt = x.toInt by omega]
              exact sj_zret hx hb hr hlocks (by decide +kernel) hS (up2 (up2 j1 419 ((j1 36 66).toInt).toNat z_46) 36 66 z_48) ⟨hO_49, (fun a b ha => ((up2_o _ _ (by omega)).trans ((up2_o _ _ (by omega)).trans (hfr_j1 a b (by omega))))), ⟨by decide, by decide⟩, ⟨fun h => by omega, by omega⟩, (fun h => ⟨by omega, by rw [h418, show ((up2 (up2 j1 419 ((j1 36 66).toInt).toNat z_46) 36 66 z_48) 36 65).toInt = (j1 36 65).toInt by omega, hP], by rw [hst9, hP]⟩), (fun h => by exfalso; omega), (fun h => ⟨fun h2 => by rw [hst9]; have := nbS_or x.toInt (stkS (i 419) (j1 36 66).toInt.toNat); omega, fun h2 => by exfalso; omega⟩)⟩ hH (sj_Knil hK) (Nat.le_of_ble_eq_true rfl) (Nat.le_of_ble_eq_true rfl) dX12_operator_98
            · skip
              have h_55 := s_nlt (rfl : r_34.toInt = _) (rfl : r_39.toInt = _) c_44
              refine lv_aload_n hx hb dX12_operator_64 rfl (lv_at hl 0 rfl) ?_
              have hj9 : (j1 419 ((j1 36 66).toInt - 1).toNat).toInt = (i 419 ((j1 36 66).toInt - 1).toNat).toInt := congrArg Int32.toInt (hfr_j1 419 ((j1 36 66).toInt - 1).toNat (by omega))
              have hSs := stkS_s (f := i 419) (n := (j1 36 66).toInt) (m := ((j1 36 66).toInt - 1).toNat) (by omega)
              have hnb := nbS_or (i 419 ((j1 36 66).toInt - 1).toNat).toInt (stkS (i 419) ((j1 36 66).toInt - 1).toNat)
              rw [← hSs] at hnb
              refine x_callv (va_runV (As := []) (rest := []) ⟨hx, hb, hml, hown, hts⟩ (m_applyTop l D g ka ad j1 r L d  hO_j1 hR H.size (by first | omega | decide) (by first | omega | decide)) (cwV 0 hts gX12_operator_X12_applyTop rfl rfl rfl (by decide +kernel) ⟨(Nat.le_of_ble_eq_true rfl), (Nat.le_of_ble_eq_true rfl)⟩) (x_preV (q := (RX12, TX12, 86)) hH hK (q_obj (by decide) (rfl : kd 36 = 12) (by decide)) rfl gxb (gxw hE hS (x_F hH hS hA))) rfl rfl hl.1 rfl (lv_room (Nat.le_of_ble_eq_true rfl)) dX12_operator_65 ⟨(Nat.le_of_ble_eq_true rfl), (Nat.le_of_ble_eq_true rfl)⟩) hH hS hA rfl rfl (fun im_58 H locs hw_57 hH hS => ?_)
              have hH : sj_H D A (hwc g ka im_58 r L d) H := hH
              obtain ⟨hO_60, hfr_59, he_61, hx2_62⟩ := hw_57
              refine lv_goto (tgt := 20) hx hb dX12_operator_68 (by decide) ?_
              exact ih_lp_3  _ _ _ ls (by omega) (by omega) (by
          have h9 := hi_lp_3_1
          rw [hSs, mpop_go (by omega)] at h9
          rw [hx2_62, hj9, show (im_58 36 66).toInt.toNat = ((j1 36 66).toInt - 1).toNat by omega]
          exact h9) (by rw [show (im_58 36 66).toInt.toNat = ((j1 36 66).toInt - 1).toNat by omega]; omega) hO_60 (fun a b ha => ((hfr_59 a b (by omega)).trans (hfr_j1 a b (by omega)))) (lv_sub hl [0, 1] rfl) hH hS
    exact lp_3 _  _ _ _ ls (Nat.lt_succ_self _) (by omega) rfl hnb0 hO (fun a b ha => rfl) (lv_sub hl [0, 1] rfl) hH hS
  · skip
    have h_63 := s_ne (rfl : x.toInt = _) (show (38 : Int32).toInt = 38 from rfl) c_1
    refine lv_iload_n hx hb dX12_operator_6 rfl (lv_at hl 1 rfl) ?_
    refine lv_bipush (v := 124) hx hb dX12_operator_7 (by decide) ?_
    refine lv_icmp_eq (tgt := 20) hx hb dX12_operator_9 (by decide) (fun c_64 => ?_) (fun c_64 => ?_)
    · skip
      have h_65 := s_eq (rfl : x.toInt = _) (show (124 : Int32).toInt = 124 from rfl) c_64
      -- loop at 20
      have lp_66 : ∀ (fuel_lp_66 : Nat)  (j1 : Nat → Nat → Int32) (H : Heap) (locs : List Loc) (ls : Array Slot), ((j1 36 66).toInt).toNat < fuel_lp_66 → (j1 36 66).toInt ≤ (i 36 66).toInt ∧ 0 ≤ (j1 36 66).toInt → mpop (bnd x.toInt) (stkV (j1 418) (j1 36 65).toInt.toNat) (stkS (i 419) (j1 36 66).toInt.toNat) = mpop (bnd x.toInt) (stkV (i 418) (i 36 65).toInt.toNat) (stkS (i 419) (i 36 66).toInt.toNat) → (j1 36 65).toInt = (nbS (stkS (i 419) (j1 36 66).toInt.toNat) : Int) + 1 → OkI j1 → (∀ a b, ¬ ((a = 36 ∧ (b = 65 ∨ b = 66)) ∨ a = 418) → j1 a b = i a b) → lv_has ls 2 [(0, .ref (g 36)), (1, .int x)] → sj_H D A (hwc g ka j1 r L d) H → va_S A s.heap H locs → W p l e (headSpec wsX12_operator ({ frames := 2, cells := 0, slots := 0, locals := 41 })).room s m ([.ref (g 36), .int x] : List Value).toArray below meth c H locs 0 0 (MQ below (sj_Qi (S := (Nat → Nat → Int32)) D (fun v u => OkI u ∧ (∀ a b, ¬ ((a = 36 ∧ (b = 65 ∨ b = 66)) ∨ a = 418 ∨ a = 419) → u a b = i a b) ∧ ((0 : Int) ≤ v.toInt ∧ v.toInt ≤ 1) ∧ (((x.toInt ≠ 38 ∧ x.toInt ≠ 124 ∧ x.toInt ≠ 41) → v.toInt = 0) ∧ (u 36 66).toInt ≤ (i 36 66).toInt + 1) ∧ ((x.toInt = 38 ∨ x.toInt = 124) → (v.toInt = 1 ∧ (stkV (u 418) (u 36 65).toInt.toNat) = (mpop (bnd x.toInt) (stkV (i 418) (i 36 65).toInt.toNat) (stkS (i 419) (i 36 66).toInt.toNat)).1 ∧ (stkS (u 419) (u 36 66).toInt.toNat) = x.toInt :: (mpop (bnd x.toInt) (stkV (i 418) (i 36 65).toInt.toNat) (stkS (i 419) (i 36 66).toInt.toNat)).2)) ∧ (x.toInt = 41 → ((v.toInt = 0 ∧ (mpop (bnd x.toInt) (stkV (i 418) (i 36 65).toInt.toNat) (stkS (i 419) (i 36 66).toInt.toNat)).2 = []) ∨ (v.toInt = 1 ∧ ∃ (c : Int) (s2 : List Int), (mpop (bnd x.toInt) (stkV (i 418) (i 36 65).toInt.toNat) (stkS (i 419) (i 36 66).toInt.toNat)).2 = c :: s2 ∧ mneg (mpop (bnd x.toInt) (stkV (i 418) (i 36 65).toInt.toNat) (stkS (i 419) (i 36 66).toInt.toNat)).1 s2 = ((stkV (u 418) (u 36 65).toInt.toNat), (stkS (u 419) (u 36 66).toInt.toNat))))) ∧ (v.toInt = 1 → ((x.toInt ≠ 41 → (u 36 65).toInt = (nbS (stkS (u 419) (u 36 66).toInt.toNat) : Int)) ∧ (x.toInt = 41 → (u 36 65).toInt = (nbS (stkS (u 419) (u 36 66).toInt.toNat) : Int) + 1)))) (fun u => hwc g ka u r L d) (fun _ => []) A) ([.ref (g 36), .int x] : List Value).toArray s 0 0 A) (F0 m 20 ls []) := by
        intro fuel_lp_66
        induction fuel_lp_66 with
        | zero => intros; omega
        | succ fuel_lp_66 ih_lp_66 =>
          intro j1 H locs ls hm hi_lp_66_0 hi_lp_66_1 hi_lp_66_2 hO_j1 hfr_j1 hl hH hS
          have hnv := hi_lp_66_2
          refine lv_aload_n hx hb dX12_operator_20 rfl (lv_at hl 0 rfl) ?_
          have bx_67 : (0 : Int) ≤ (j1 36 66).toInt ∧ (j1 36 66).toInt ≤ 42 := hO_j1 36 66
          refine h_geti (ci := 12) (C := RX12) (F := TX12) (N := 86) hx hb hts in12 hown hK hH (by decide) (rfl : kd 36 = 12) (by decide) rfl 66 (by decide) wd0 (fun _ h9 => h9) (by decide) rfl dX12_operator_21 ?_
          refine lv_if_le (tgt := 71) hx hb dX12_operator_24 (by decide) (fun c_68 => ?_) (fun c_68 => ?_)
          · skip
            have h_69 := s_le (rfl : (j1 36 66).toInt = _) (show (0 : Int32).toInt = 0 from rfl) c_68
            refine lv_iload_n hx hb dX12_operator_71 rfl (lv_at hl 1 rfl) ?_
            refine lv_bipush (v := 41) hx hb dX12_operator_72 (by decide) ?_
            refine lv_icmp_eq (tgt := 99) hx hb dX12_operator_74 (by decide) (fun h => absurd h (p_ne (rfl : x.toInt = _) (show (41 : Int32).toInt = 41 from rfl) (by omega))) (fun _ => ?_)
            refine lv_aload_n hx hb dX12_operator_77 rfl (lv_at hl 0 rfl) ?_
            refine h_getr (ci := 12) (C := RX12) (F := TX12) (N := 86) hx hb hts in12 hown hK hH (by decide) (rfl : kd 36 = 12) (by decide) rfl 64 (by decide) wd1 (fun _ h9 => h9) (by decide) rfl (t := 419) (hR 36 64 rfl) (by decide) dX12_operator_78 ?_
            refine lv_aload_n hx hb dX12_operator_81 rfl (lv_at hl 0 rfl) ?_
            refine h_geti (ci := 12) (C := RX12) (F := TX12) (N := 86) hx hb hts in12 hown hK hH (by decide) (rfl : kd 36 = 12) (by decide) rfl 66 (by decide) wd0 (fun _ h9 => h9) (by decide) rfl dX12_operator_82 ?_
            refine lv_iload_n hx hb dX12_operator_85 rfl (lv_at hl 1 rfl) ?_
            obtain ⟨z_70, ez_70⟩ : ∃ z, vp_nar .char x = z := ⟨_, rfl⟩
            have hz_70 : z_70.toInt = x.toInt := by rw [← ez_70, s_narc (rfl : x.toInt = _) (by omega) (by omega)] <;> exact (rfl : x.toInt = _)
            have hO_71 := okp hO_j1 (n := 419) (k := ((j1 36 66).toInt).toNat) (v := z_70) (show (0 : Int) ≤ (z_70 : Int32).toInt ∧ (z_70 : Int32).toInt ≤ 65535 from ⟨by omega, by omega⟩)
            refine h_cast hx hb hK hH hS (by decide) (rfl : kd 419 = 14) (s_vin (N := 42) (rfl : (j1 36 66).toInt = _) (rfl : ln 419 = 42) (by omega) (by omega)) dX12_operator_86 (fun H locs hH hS => ?_)
            rw [ez_70] at hH
            rw [s_cl (show (j1 36 66).toInt = (j1 36 66).toInt by omega)] at hH
            refine lv_aload_n hx hb dX12_operator_87 rfl (lv_at hl 0 rfl) ?_
            refine lv_dup hx hb dX12_operator_88 rfl ?_
            refine h_geti (ci := 12) (C := RX12) (F := TX12) (N := 86) hx hb hts in12 hown hK hH (by decide) (rfl : kd 36 = 12) (by decide) rfl 66 (by decide) wd0 (fun _ h9 => h9) (by decide) rfl dX12_operator_89 ?_
            refine sj_i (y := (j1 36 66)) (congrFun (up2_n _ _ (by decide)) _) ?_
            refine lv_iconst (v := 1) hx hb dX12_operator_92 (by decide) ?_
            refine lv_iadd hx hb dX12_operator_93 ?_
            obtain ⟨z_72, ez_72, hz_72⟩ := s_add (rfl : (j1 36 66).toInt = _) (show (1 : Int32).toInt = 1 from rfl) (by omega) (by omega)
            refine sj_i ez_72 ?_
            have hO_73 := okp hO_71 (n := 36) (k := 66) (v := z_72) (show (0 : Int) ≤ (z_72 : Int32).toInt ∧ (z_72 : Int32).toInt ≤ 42 from ⟨by omega, by omega⟩)
            refine h_puti (ty := .int) (ci := 12) (C := RX12) (F := TX12) (N := 86) hx hb hts in12 tyX12 tyX12_ok nmX12 hown hK hH hS (by decide) (rfl : kd 36 = 12) (by decide) rfl 66 (by decide) wd0 (fun _ h9 => h9) rfl (by decide +kernel) rfl rfl (by decide) rfl dX12_operator_94 (fun H locs hH hS => ?_)
            refine lv_iconst (v := 1) hx hb dX12_operator_97 (by decide) ?_
            have hlv_74 : (1 : Int32).toInt = 1 := rfl
            have hw_75 : ((up2 (up2 j1 419 ((j1 36 66).toInt).toNat z_70) 36 66 z_72) 36 65).toInt = ((j1 36 65) : Int32).toInt := congrArg Int32.toInt (((up2_k _ _ (by decide)).trans (congrFun (up2_n _ _ (by decide)) _)))
            have hw_76 : ((up2 (up2 j1 419 ((j1 36 66).toInt).toNat z_70) 36 66 z_72) 36 66).toInt = (z_72 : Int32).toInt := congrArg Int32.toInt ((up2_at _ _ _ _))
            have hw_77 : ((up2 (up2 j1 419 ((j1 36 66).toInt).toNat z_70) 36 66 z_72) 36 65).toInt = ((j1 36 65) : Int32).toInt := congrArg Int32.toInt (((up2_k _ _ (by decide)).trans (congrFun (up2_n _ _ (by decide)) _)))
            have hw_78 : ((up2 (up2 j1 419 ((j1 36 66).toInt).toNat z_70) 36 66 z_72) 36 66).toInt = (z_72 : Int32).toInt := congrArg Int32.toInt ((up2_at _ _ _ _))
            have hP : mpop (bnd x.toInt) (stkV (i 418) (i 36 65).toInt.toNat) (stkS (i 419) (i 36 66).toInt.toNat) = ((stkV (j1 418) (j1 36 65).toInt.toNat), (stkS (i 419) (j1 36 66).toInt.toNat)) := by
                have h9 := hi_lp_66_1
                by_cases q : (j1 36 66).toInt ≤ 0
                · rw [show (j1 36 66).toInt.toNat = 0 by omega] at h9 ⊢
                  exact h9.symm
                · have hSs := stkS_s (f := i 419) (n := (j1 36 66).toInt) (m := ((j1 36 66).toInt - 1).toNat) (by omega)
                  rw [hSs, mpop_stop (by omega), ← hSs] at h9
                  exact h9.symm
            have h418 : (up2 (up2 j1 419 ((j1 36 66).toInt).toNat z_70) 36 66 z_72) 418 = j1 418 := (up2_n _ _ (by decide)).trans (up2_n _ _ (by decide))
            have h419 : (up2 (up2 j1 419 ((j1 36 66).toInt).toNat z_70) 36 66 z_72) 419 = upd (i 419) ((j1 36 66).toInt).toNat z_70 := (up2_n _ _ (by decide)).trans ((up2_r _ _ _ _).trans (congrArg (fun f => upd f ((j1 36 66).toInt).toNat z_70) (funext fun b9 => hfr_j1 419 b9 (by omega))))
            have hst9 : (stkS ((up2 (up2 j1 419 ((j1 36 66).toInt).toNat z_70) 36 66 z_72) 419) ((up2 (up2 j1 419 ((j1 36 66).toInt).toNat z_70) 36 66 z_72) 36 66).toInt.toNat) = x.toInt :: (stkS (i 419) (j1 36 66).toInt.toNat) := by rw [h419, show ((up2 (up2 j1 419 ((j1 36 66).toInt).toNat z_70) 36 66 z_72) 36 66).toInt.toNat = ((j1 36 66).toInt).toNat + 1 by omega, stkS_push, show (z_70 : Int32).toInt = x.toInt by omega]
            exact sj_zret hx hb hr hlocks (by decide +kernel) hS (up2 (up2 j1 419 ((j1 36 66).toInt).toNat z_70) 36 66 z_72) ⟨hO_73, (fun a b ha => ((up2_o _ _ (by omega)).trans ((up2_o _ _ (by omega)).trans (hfr_j1 a b (by omega))))), ⟨by decide, by decide⟩, ⟨fun h => by omega, by omega⟩, (fun h => ⟨by omega, by rw [h418, show ((up2 (up2 j1 419 ((j1 36 66).toInt).toNat z_70) 36 66 z_72) 36 65).toInt = (j1 36 65).toInt by omega, hP], by rw [hst9, hP]⟩), (fun h => by exfalso; omega), (fun h => ⟨fun h2 => by rw [hst9]; have := nbS_or x.toInt (stkS (i 419) (j1 36 66).toInt.toNat); omega, fun h2 => by exfalso; omega⟩)⟩ hH (sj_Knil hK) (Nat.le_of_ble_eq_true rfl) (Nat.le_of_ble_eq_true rfl) dX12_operator_98
          · skip
            have h_79 := s_nle (rfl : (j1 36 66).toInt = _) (show (0 : Int32).toInt = 0 from rfl) c_68
            refine lv_aload_n hx hb dX12_operator_27 rfl (lv_at hl 0 rfl) ?_
            refine h_getr (ci := 12) (C := RX12) (F := TX12) (N := 86) hx hb hts in12 hown hK hH (by decide) (rfl : kd 36 = 12) (by decide) rfl 64 (by decide) wd1 (fun _ h9 => h9) (by decide) rfl (t := 419) (hR 36 64 rfl) (by decide) dX12_operator_28 ?_
            refine lv_aload_n hx hb dX12_operator_31 rfl (lv_at hl 0 rfl) ?_
            refine h_geti (ci := 12) (C := RX12) (F := TX12) (N := 86) hx hb hts in12 hown hK hH (by decide) (rfl : kd 36 = 12) (by decide) rfl 66 (by decide) wd0 (fun _ h9 => h9) (by decide) rfl dX12_operator_32 ?_
            refine lv_iconst (v := 1) hx hb dX12_operator_35 (by decide) ?_
            refine lv_isub hx hb dX12_operator_36 ?_
            obtain ⟨z_80, ez_80, hz_80⟩ := s_sub (rfl : (j1 36 66).toInt = _) (show (1 : Int32).toInt = 1 from rfl) (by omega) (by omega)
            refine sj_i ez_80 ?_
            have bx_81 : (0 : Int) ≤ (i 419 ((j1 36 66).toInt - 1).toNat).toInt ∧ (i 419 ((j1 36 66).toInt - 1).toNat).toInt ≤ 65535 := hO 419 ((j1 36 66).toInt - 1).toNat
            refine h_cald hx hb hK hH (by decide) (rfl : kd 419 = 14) (s_vin (N := 42) (rfl : z_80.toInt = _) (rfl : ln 419 = 42) (by omega) (by omega)) dX12_operator_37 ?_
            have ek_82 : z_80.toNatClampNeg = ((j1 36 66).toInt - 1).toNat := (s_cl (show z_80.toInt = (j1 36 66).toInt - 1 by omega))
            refine sj_i (y := (i 419 ((j1 36 66).toInt - 1).toNat)) (by rw [ek_82]; exact (hfr_j1 419 ((j1 36 66).toInt - 1).toNat (by omega))) ?_
            refine lv_bipush (v := 40) hx hb dX12_operator_38 (by decide) ?_
            refine lv_icmp_eq (tgt := 71) hx hb dX12_operator_40 (by decide) (fun c_83 => ?_) (fun c_83 => ?_)
            · skip
              have h_84 := s_eq (rfl : (i 419 ((j1 36 66).toInt - 1).toNat).toInt = _) (show (40 : Int32).toInt = 40 from rfl) c_83
              refine lv_iload_n hx hb dX12_operator_71 rfl (lv_at hl 1 rfl) ?_
              refine lv_bipush (v := 41) hx hb dX12_operator_72 (by decide) ?_
              refine lv_icmp_eq (tgt := 99) hx hb dX12_operator_74 (by decide) (fun h => absurd h (p_ne (rfl : x.toInt = _) (show (41 : Int32).toInt = 41 from rfl) (by omega))) (fun _ => ?_)
              refine lv_aload_n hx hb dX12_operator_77 rfl (lv_at hl 0 rfl) ?_
              refine h_getr (ci := 12) (C := RX12) (F := TX12) (N := 86) hx hb hts in12 hown hK hH (by decide) (rfl : kd 36 = 12) (by decide) rfl 64 (by decide) wd1 (fun _ h9 => h9) (by decide) rfl (t := 419) (hR 36 64 rfl) (by decide) dX12_operator_78 ?_
              refine lv_aload_n hx hb dX12_operator_81 rfl (lv_at hl 0 rfl) ?_
              refine h_geti (ci := 12) (C := RX12) (F := TX12) (N := 86) hx hb hts in12 hown hK hH (by decide) (rfl : kd 36 = 12) (by decide) rfl 66 (by decide) wd0 (fun _ h9 => h9) (by decide) rfl dX12_operator_82 ?_
              refine lv_iload_n hx hb dX12_operator_85 rfl (lv_at hl 1 rfl) ?_
              obtain ⟨z_85, ez_85⟩ : ∃ z, vp_nar .char x = z := ⟨_, rfl⟩
              have hz_85 : z_85.toInt = x.toInt := by rw [← ez_85, s_narc (rfl : x.toInt = _) (by omega) (by omega)] <;> exact (rfl : x.toInt = _)
              have hO_86 := okp hO_j1 (n := 419) (k := ((j1 36 66).toInt).toNat) (v := z_85) (show (0 : Int) ≤ (z_85 : Int32).toInt ∧ (z_85 : Int32).toInt ≤ 65535 from ⟨by omega, by omega⟩)
              refine h_cast hx hb hK hH hS (by decide) (rfl : kd 419 = 14) (s_vin (N := 42) (rfl : (j1 36 66).toInt = _) (rfl : ln 419 = 42) (by omega) (by omega)) dX12_operator_86 (fun H locs hH hS => ?_)
              rw [ez_85] at hH
              rw [s_cl (show (j1 36 66).toInt = (j1 36 66).toInt by omega)] at hH
              refine lv_aload_n hx hb dX12_operator_87 rfl (lv_at hl 0 rfl) ?_
              refine lv_dup hx hb dX12_operator_88 rfl ?_
              refine h_geti (ci := 12) (C := RX12) (F := TX12) (N := 86) hx hb hts in12 hown hK hH (by decide) (rfl : kd 36 = 12) (by decide) rfl 66 (by decide) wd0 (fun _ h9 => h9) (by decide) rfl dX12_operator_89 ?_
              refine sj_i (y := (j1 36 66)) (congrFun (up2_n _ _ (by decide)) _) ?_
              refine lv_iconst (v := 1) hx hb dX12_operator_92 (by decide) ?_
              refine lv_iadd hx hb dX12_operator_93 ?_
              obtain ⟨z_87, ez_87, hz_87⟩ := s_add (rfl : (j1 36 66).toInt = _) (show (1 : Int32).toInt = 1 from rfl) (by omega) (by omega)
              refine sj_i ez_87 ?_
              have hO_88 := okp hO_86 (n := 36) (k := 66) (v := z_87) (show (0 : Int) ≤ (z_87 : Int32).toInt ∧ (z_87 : Int32).toInt ≤ 42 from ⟨by omega, by omega⟩)
              refine h_puti (ty := .int) (ci := 12) (C := RX12) (F := TX12) (N := 86) hx hb hts in12 tyX12 tyX12_ok nmX12 hown hK hH hS (by decide) (rfl : kd 36 = 12) (by decide) rfl 66 (by decide) wd0 (fun _ h9 => h9) rfl (by decide +kernel) rfl rfl (by decide) rfl dX12_operator_94 (fun H locs hH hS => ?_)
              refine lv_iconst (v := 1) hx hb dX12_operator_97 (by decide) ?_
              have hlv_89 : (1 : Int32).toInt = 1 := rfl
              have hw_90 : ((up2 (up2 j1 419 ((j1 36 66).toInt).toNat z_85) 36 66 z_87) 36 65).toInt = ((j1 36 65) : Int32).toInt := congrArg Int32.toInt (((up2_k _ _ (by decide)).trans (congrFun (up2_n _ _ (by decide)) _)))
              have hw_91 : ((up2 (up2 j1 419 ((j1 36 66).toInt).toNat z_85) 36 66 z_87) 36 66).toInt = (z_87 : Int32).toInt := congrArg Int32.toInt ((up2_at _ _ _ _))
              have hw_92 : ((up2 (up2 j1 419 ((j1 36 66).toInt).toNat z_85) 36 66 z_87) 36 65).toInt = ((j1 36 65) : Int32).toInt := congrArg Int32.toInt (((up2_k _ _ (by decide)).trans (congrFun (up2_n _ _ (by decide)) _)))
              have hw_93 : ((up2 (up2 j1 419 ((j1 36 66).toInt).toNat z_85) 36 66 z_87) 36 66).toInt = (z_87 : Int32).toInt := congrArg Int32.toInt ((up2_at _ _ _ _))
              have hP : mpop (bnd x.toInt) (stkV (i 418) (i 36 65).toInt.toNat) (stkS (i 419) (i 36 66).toInt.toNat) = ((stkV (j1 418) (j1 36 65).toInt.toNat), (stkS (i 419) (j1 36 66).toInt.toNat)) := by
                  have h9 := hi_lp_66_1
                  by_cases q : (j1 36 66).toInt ≤ 0
                  · rw [show (j1 36 66).toInt.toNat = 0 by omega] at h9 ⊢
                    exact h9.symm
                  · have hSs := stkS_s (f := i 419) (n := (j1 36 66).toInt) (m := ((j1 36 66).toInt - 1).toNat) (by omega)
                    rw [hSs, mpop_stop (by omega), ← hSs] at h9
                    exact h9.symm
              have h418 : (up2 (up2 j1 419 ((j1 36 66).toInt).toNat z_85) 36 66 z_87) 418 = j1 418 := (up2_n _ _ (by decide)).trans (up2_n _ _ (by decide))
              have h419 : (up2 (up2 j1 419 ((j1 36 66).toInt).toNat z_85) 36 66 z_87) 419 = upd (i 419) ((j1 36 66).toInt).toNat z_85 := (up2_n _ _ (by decide)).trans ((up2_r _ _ _ _).trans (congrArg (fun f => upd f ((j1 36 66).toInt).toNat z_85) (funext fun b9 => hfr_j1 419 b9 (by omega))))
              have hst9 : (stkS ((up2 (up2 j1 419 ((j1 36 66).toInt).toNat z_85) 36 66 z_87) 419) ((up2 (up2 j1 419 ((j1 36 66).toInt).toNat z_85) 36 66 z_87) 36 66).toInt.toNat) = x.toInt :: (stkS (i 419) (j1 36 66).toInt.toNat) := by rw [h419, show ((up2 (up2 j1 419 ((j1 36 66).toInt).toNat z_85) 36 66 z_87) 36 66).toInt.toNat = ((j1 36 66).toInt).toNat + 1 by omega, stkS_push, show (z_85 : Int32).toInt = x.toInt by omega]
              exact sj_zret hx hb hr hlocks (by decide +kernel) hS (up2 (up2 j1 419 ((j1 36 66).toInt).toNat z_85) 36 66 z_87) ⟨hO_88, (fun a b ha => ((up2_o _ _ (by omega)).trans ((up2_o _ _ (by omega)).trans (hfr_j1 a b (by omega))))), ⟨by decide, by decide⟩, ⟨fun h => by omega, by omega⟩, (fun h => ⟨by omega, by rw [h418, show ((up2 (up2 j1 419 ((j1 36 66).toInt).toNat z_85) 36 66 z_87) 36 65).toInt = (j1 36 65).toInt by omega, hP], by rw [hst9, hP]⟩), (fun h => by exfalso; omega), (fun h => ⟨fun h2 => by rw [hst9]; have := nbS_or x.toInt (stkS (i 419) (j1 36 66).toInt.toNat); omega, fun h2 => by exfalso; omega⟩)⟩ hH (sj_Knil hK) (Nat.le_of_ble_eq_true rfl) (Nat.le_of_ble_eq_true rfl) dX12_operator_98
            · skip
              have h_94 := s_ne (rfl : (i 419 ((j1 36 66).toInt - 1).toNat).toInt = _) (show (40 : Int32).toInt = 40 from rfl) c_83
              refine lv_aload_n hx hb dX12_operator_43 rfl (lv_at hl 0 rfl) ?_
              refine h_getr (ci := 12) (C := RX12) (F := TX12) (N := 86) hx hb hts in12 hown hK hH (by decide) (rfl : kd 36 = 12) (by decide) rfl 64 (by decide) wd1 (fun _ h9 => h9) (by decide) rfl (t := 419) (hR 36 64 rfl) (by decide) dX12_operator_44 ?_
              refine lv_aload_n hx hb dX12_operator_47 rfl (lv_at hl 0 rfl) ?_
              refine h_geti (ci := 12) (C := RX12) (F := TX12) (N := 86) hx hb hts in12 hown hK hH (by decide) (rfl : kd 36 = 12) (by decide) rfl 66 (by decide) wd0 (fun _ h9 => h9) (by decide) rfl dX12_operator_48 ?_
              refine lv_iconst (v := 1) hx hb dX12_operator_51 (by decide) ?_
              refine lv_isub hx hb dX12_operator_52 ?_
              obtain ⟨z_95, ez_95, hz_95⟩ := s_sub (rfl : (j1 36 66).toInt = _) (show (1 : Int32).toInt = 1 from rfl) (by omega) (by omega)
              refine sj_i ez_95 ?_
              refine h_cald hx hb hK hH (by decide) (rfl : kd 419 = 14) (s_vin (N := 42) (rfl : z_95.toInt = _) (rfl : ln 419 = 42) (by omega) (by omega)) dX12_operator_53 ?_
              have ek_96 : z_95.toNatClampNeg = ((j1 36 66).toInt - 1).toNat := (s_cl (show z_95.toInt = (j1 36 66).toInt - 1 by omega))
              refine sj_i (y := (i 419 ((j1 36 66).toInt - 1).toNat)) (by rw [ek_96]; exact (hfr_j1 419 ((j1 36 66).toInt - 1).toNat (by omega))) ?_
              refine x_calli (va_runS (As := [.int (i 419 ((j1 36 66).toInt - 1).toNat)]) (rest := []) ⟨hx, hb, hml, hown, hts⟩ (m_binding l D g ka ad j1 r L d (i 419 ((j1 36 66).toInt - 1).toNat) hO_j1 hR H.size ) (cwS 1 hts gX12_operator_X12_binding rfl rfl rfl (by decide +kernel) ⟨(Nat.le_of_ble_eq_true rfl), (Nat.le_of_ble_eq_true rfl)⟩) (x_preS hH hK gxb (gxw hE hS (x_F hH hS hA))) rfl rfl hl.1 rfl (lv_room (Nat.le_of_ble_eq_true rfl)) dX12_operator_54 ⟨(Nat.le_of_ble_eq_true rfl), (Nat.le_of_ble_eq_true rfl)⟩) hH hS hA rfl rfl (fun r_97 _ H locs hw_98 hH hS => ?_)
              obtain ⟨hr_100, he_101⟩ := hw_98
              have hr_100 : (0 : Int) ≤ r_97.toInt ∧ r_97.toInt ≤ 2 := hr_100
              refine lv_iload_n hx hb dX12_operator_57 rfl (lv_at hl 1 rfl) ?_
              refine x_calli (va_runS (As := [.int x]) (rest := [.int r_97]) ⟨hx, hb, hml, hown, hts⟩ (m_binding l D g ka ad j1 r L d x hO_j1 hR H.size ) (cwS 1 hts gX12_operator_X12_binding rfl rfl rfl (by decide +kernel) ⟨(Nat.le_of_ble_eq_true rfl), (Nat.le_of_ble_eq_true rfl)⟩) (x_preS hH hK gxb (gxw hE hS (x_F hH hS hA))) rfl rfl hl.1 rfl (lv_room (Nat.le_of_ble_eq_true rfl)) dX12_operator_58 ⟨(Nat.le_of_ble_eq_true rfl), (Nat.le_of_ble_eq_true rfl)⟩) hH hS hA rfl rfl (fun r_102 _ H locs hw_103 hH hS => ?_)
              obtain ⟨hr_105, he_106⟩ := hw_103
              have hr_105 : (0 : Int) ≤ r_102.toInt ∧ r_102.toInt ≤ 2 := hr_105
              refine lv_icmp_lt (tgt := 71) hx hb dX12_operator_61 (by decide) (fun c_107 => ?_) (fun c_107 => ?_)
              · skip
                have h_108 := s_lt (rfl : r_97.toInt = _) (rfl : r_102.toInt = _) c_107
                refine lv_iload_n hx hb dX12_operator_71 rfl (lv_at hl 1 rfl) ?_
                refine lv_bipush (v := 41) hx hb dX12_operator_72 (by decide) ?_
                refine lv_icmp_eq (tgt := 99) hx hb dX12_operator_74 (by decide) (fun h => absurd h (p_ne (rfl : x.toInt = _) (show (41 : Int32).toInt = 41 from rfl) (by omega))) (fun _ => ?_)
                refine lv_aload_n hx hb dX12_operator_77 rfl (lv_at hl 0 rfl) ?_
                refine h_getr (ci := 12) (C := RX12) (F := TX12) (N := 86) hx hb hts in12 hown hK hH (by decide) (rfl : kd 36 = 12) (by decide) rfl 64 (by decide) wd1 (fun _ h9 => h9) (by decide) rfl (t := 419) (hR 36 64 rfl) (by decide) dX12_operator_78 ?_
                refine lv_aload_n hx hb dX12_operator_81 rfl (lv_at hl 0 rfl) ?_
                refine h_geti (ci := 12) (C := RX12) (F := TX12) (N := 86) hx hb hts in12 hown hK hH (by decide) (rfl : kd 36 = 12) (by decide) rfl 66 (by decide) wd0 (fun _ h9 => h9) (by decide) rfl dX12_operator_82 ?_
                refine lv_iload_n hx hb dX12_operator_85 rfl (lv_at hl 1 rfl) ?_
                obtain ⟨z_109, ez_109⟩ : ∃ z, vp_nar .char x = z := ⟨_, rfl⟩
                have hz_109 : z_109.toInt = x.toInt := by rw [← ez_109, s_narc (rfl : x.toInt = _) (by omega) (by omega)] <;> exact (rfl : x.toInt = _)
                have hO_110 := okp hO_j1 (n := 419) (k := ((j1 36 66).toInt).toNat) (v := z_109) (show (0 : Int) ≤ (z_109 : Int32).toInt ∧ (z_109 : Int32).toInt ≤ 65535 from ⟨by omega, by omega⟩)
                refine h_cast hx hb hK hH hS (by decide) (rfl : kd 419 = 14) (s_vin (N := 42) (rfl : (j1 36 66).toInt = _) (rfl : ln 419 = 42) (by omega) (by omega)) dX12_operator_86 (fun H locs hH hS => ?_)
                rw [ez_109] at hH
                rw [s_cl (show (j1 36 66).toInt = (j1 36 66).toInt by omega)] at hH
                refine lv_aload_n hx hb dX12_operator_87 rfl (lv_at hl 0 rfl) ?_
                refine lv_dup hx hb dX12_operator_88 rfl ?_
                refine h_geti (ci := 12) (C := RX12) (F := TX12) (N := 86) hx hb hts in12 hown hK hH (by decide) (rfl : kd 36 = 12) (by decide) rfl 66 (by decide) wd0 (fun _ h9 => h9) (by decide) rfl dX12_operator_89 ?_
                refine sj_i (y := (j1 36 66)) (congrFun (up2_n _ _ (by decide)) _) ?_
                refine lv_iconst (v := 1) hx hb dX12_operator_92 (by decide) ?_
                refine lv_iadd hx hb dX12_operator_93 ?_
                obtain ⟨z_111, ez_111, hz_111⟩ := s_add (rfl : (j1 36 66).toInt = _) (show (1 : Int32).toInt = 1 from rfl) (by omega) (by omega)
                refine sj_i ez_111 ?_
                have hO_112 := okp hO_110 (n := 36) (k := 66) (v := z_111) (show (0 : Int) ≤ (z_111 : Int32).toInt ∧ (z_111 : Int32).toInt ≤ 42 from ⟨by omega, by omega⟩)
                refine h_puti (ty := .int) (ci := 12) (C := RX12) (F := TX12) (N := 86) hx hb hts in12 tyX12 tyX12_ok nmX12 hown hK hH hS (by decide) (rfl : kd 36 = 12) (by decide) rfl 66 (by decide) wd0 (fun _ h9 => h9) rfl (by decide +kernel) rfl rfl (by decide) rfl dX12_operator_94 (fun H locs hH hS => ?_)
                refine lv_iconst (v := 1) hx hb dX12_operator_97 (by decide) ?_
                have hlv_113 : (1 : Int32).toInt = 1 := rfl
                have hw_114 : ((up2 (up2 j1 419 ((j1 36 66).toInt).toNat z_109) 36 66 z_111) 36 65).toInt = ((j1 36 65) : Int32).toInt := congrArg Int32.toInt (((up2_k _ _ (by decide)).trans (congrFun (up2_n _ _ (by decide)) _)))
                have hw_115 : ((up2 (up2 j1 419 ((j1 36 66).toInt).toNat z_109) 36 66 z_111) 36 66).toInt = (z_111 : Int32).toInt := congrArg Int32.toInt ((up2_at _ _ _ _))
                have hw_116 : ((up2 (up2 j1 419 ((j1 36 66).toInt).toNat z_109) 36 66 z_111) 36 65).toInt = ((j1 36 65) : Int32).toInt := congrArg Int32.toInt (((up2_k _ _ (by decide)).trans (congrFun (up2_n _ _ (by decide)) _)))
                have hw_117 : ((up2 (up2 j1 419 ((j1 36 66).toInt).toNat z_109) 36 66 z_111) 36 66).toInt = (z_111 : Int32).toInt := congrArg Int32.toInt ((up2_at _ _ _ _))
                have hP : mpop (bnd x.toInt) (stkV (i 418) (i 36 65).toInt.toNat) (stkS (i 419) (i 36 66).toInt.toNat) = ((stkV (j1 418) (j1 36 65).toInt.toNat), (stkS (i 419) (j1 36 66).toInt.toNat)) := by
                    have h9 := hi_lp_66_1
                    by_cases q : (j1 36 66).toInt ≤ 0
                    · rw [show (j1 36 66).toInt.toNat = 0 by omega] at h9 ⊢
                      exact h9.symm
                    · have hSs := stkS_s (f := i 419) (n := (j1 36 66).toInt) (m := ((j1 36 66).toInt - 1).toNat) (by omega)
                      rw [hSs, mpop_stop (by omega), ← hSs] at h9
                      exact h9.symm
                have h418 : (up2 (up2 j1 419 ((j1 36 66).toInt).toNat z_109) 36 66 z_111) 418 = j1 418 := (up2_n _ _ (by decide)).trans (up2_n _ _ (by decide))
                have h419 : (up2 (up2 j1 419 ((j1 36 66).toInt).toNat z_109) 36 66 z_111) 419 = upd (i 419) ((j1 36 66).toInt).toNat z_109 := (up2_n _ _ (by decide)).trans ((up2_r _ _ _ _).trans (congrArg (fun f => upd f ((j1 36 66).toInt).toNat z_109) (funext fun b9 => hfr_j1 419 b9 (by omega))))
                have hst9 : (stkS ((up2 (up2 j1 419 ((j1 36 66).toInt).toNat z_109) 36 66 z_111) 419) ((up2 (up2 j1 419 ((j1 36 66).toInt).toNat z_109) 36 66 z_111) 36 66).toInt.toNat) = x.toInt :: (stkS (i 419) (j1 36 66).toInt.toNat) := by rw [h419, show ((up2 (up2 j1 419 ((j1 36 66).toInt).toNat z_109) 36 66 z_111) 36 66).toInt.toNat = ((j1 36 66).toInt).toNat + 1 by omega, stkS_push, show (z_109 : Int32).toInt = x.toInt by omega]
                exact sj_zret hx hb hr hlocks (by decide +kernel) hS (up2 (up2 j1 419 ((j1 36 66).toInt).toNat z_109) 36 66 z_111) ⟨hO_112, (fun a b ha => ((up2_o _ _ (by omega)).trans ((up2_o _ _ (by omega)).trans (hfr_j1 a b (by omega))))), ⟨by decide, by decide⟩, ⟨fun h => by omega, by omega⟩, (fun h => ⟨by omega, by rw [h418, show ((up2 (up2 j1 419 ((j1 36 66).toInt).toNat z_109) 36 66 z_111) 36 65).toInt = (j1 36 65).toInt by omega, hP], by rw [hst9, hP]⟩), (fun h => by exfalso; omega), (fun h => ⟨fun h2 => by rw [hst9]; have := nbS_or x.toInt (stkS (i 419) (j1 36 66).toInt.toNat); omega, fun h2 => by exfalso; omega⟩)⟩ hH (sj_Knil hK) (Nat.le_of_ble_eq_true rfl) (Nat.le_of_ble_eq_true rfl) dX12_operator_98
              · skip
                have h_118 := s_nlt (rfl : r_97.toInt = _) (rfl : r_102.toInt = _) c_107
                refine lv_aload_n hx hb dX12_operator_64 rfl (lv_at hl 0 rfl) ?_
                have hj9 : (j1 419 ((j1 36 66).toInt - 1).toNat).toInt = (i 419 ((j1 36 66).toInt - 1).toNat).toInt := congrArg Int32.toInt (hfr_j1 419 ((j1 36 66).toInt - 1).toNat (by omega))
                have hSs := stkS_s (f := i 419) (n := (j1 36 66).toInt) (m := ((j1 36 66).toInt - 1).toNat) (by omega)
                have hnb := nbS_or (i 419 ((j1 36 66).toInt - 1).toNat).toInt (stkS (i 419) ((j1 36 66).toInt - 1).toNat)
                rw [← hSs] at hnb
                refine x_callv (va_runV (As := []) (rest := []) ⟨hx, hb, hml, hown, hts⟩ (m_applyTop l D g ka ad j1 r L d  hO_j1 hR H.size (by first | omega | decide) (by first | omega | decide)) (cwV 0 hts gX12_operator_X12_applyTop rfl rfl rfl (by decide +kernel) ⟨(Nat.le_of_ble_eq_true rfl), (Nat.le_of_ble_eq_true rfl)⟩) (x_preV (q := (RX12, TX12, 86)) hH hK (q_obj (by decide) (rfl : kd 36 = 12) (by decide)) rfl gxb (gxw hE hS (x_F hH hS hA))) rfl rfl hl.1 rfl (lv_room (Nat.le_of_ble_eq_true rfl)) dX12_operator_65 ⟨(Nat.le_of_ble_eq_true rfl), (Nat.le_of_ble_eq_true rfl)⟩) hH hS hA rfl rfl (fun im_121 H locs hw_120 hH hS => ?_)
                have hH : sj_H D A (hwc g ka im_121 r L d) H := hH
                obtain ⟨hO_123, hfr_122, he_124, hx2_125⟩ := hw_120
                refine lv_goto (tgt := 20) hx hb dX12_operator_68 (by decide) ?_
                exact ih_lp_66  _ _ _ ls (by omega) (by omega) (by
          have h9 := hi_lp_66_1
          rw [hSs, mpop_go (by omega)] at h9
          rw [hx2_125, hj9, show (im_121 36 66).toInt.toNat = ((j1 36 66).toInt - 1).toNat by omega]
          exact h9) (by rw [show (im_121 36 66).toInt.toNat = ((j1 36 66).toInt - 1).toNat by omega]; omega) hO_123 (fun a b ha => ((hfr_122 a b (by omega)).trans (hfr_j1 a b (by omega)))) (lv_sub hl [0, 1] rfl) hH hS
      exact lp_66 _  _ _ _ ls (Nat.lt_succ_self _) (by omega) rfl hnb0 hO (fun a b ha => rfl) (lv_sub hl [0, 1] rfl) hH hS
    · skip
      have h_126 := s_ne (rfl : x.toInt = _) (show (124 : Int32).toInt = 124 from rfl) c_64
      refine lv_iload_n hx hb dX12_operator_12 rfl (lv_at hl 1 rfl) ?_
      refine lv_bipush (v := 41) hx hb dX12_operator_13 (by decide) ?_
      refine lv_icmp_eq (tgt := 20) hx hb dX12_operator_15 (by decide) (fun c_127 => ?_) (fun c_127 => ?_)
      · skip
        have h_128 := s_eq (rfl : x.toInt = _) (show (41 : Int32).toInt = 41 from rfl) c_127
        -- loop at 20
        have lp_129 : ∀ (fuel_lp_129 : Nat)  (j1 : Nat → Nat → Int32) (H : Heap) (locs : List Loc) (ls : Array Slot), ((j1 36 66).toInt).toNat < fuel_lp_129 → (j1 36 66).toInt ≤ (i 36 66).toInt ∧ 0 ≤ (j1 36 66).toInt → mpop (bnd x.toInt) (stkV (j1 418) (j1 36 65).toInt.toNat) (stkS (i 419) (j1 36 66).toInt.toNat) = mpop (bnd x.toInt) (stkV (i 418) (i 36 65).toInt.toNat) (stkS (i 419) (i 36 66).toInt.toNat) → (j1 36 65).toInt = (nbS (stkS (i 419) (j1 36 66).toInt.toNat) : Int) + 1 → OkI j1 → (∀ a b, ¬ ((a = 36 ∧ (b = 65 ∨ b = 66)) ∨ a = 418) → j1 a b = i a b) → lv_has ls 2 [(0, .ref (g 36)), (1, .int x)] → sj_H D A (hwc g ka j1 r L d) H → va_S A s.heap H locs → W p l e (headSpec wsX12_operator ({ frames := 2, cells := 0, slots := 0, locals := 41 })).room s m ([.ref (g 36), .int x] : List Value).toArray below meth c H locs 0 0 (MQ below (sj_Qi (S := (Nat → Nat → Int32)) D (fun v u => OkI u ∧ (∀ a b, ¬ ((a = 36 ∧ (b = 65 ∨ b = 66)) ∨ a = 418 ∨ a = 419) → u a b = i a b) ∧ ((0 : Int) ≤ v.toInt ∧ v.toInt ≤ 1) ∧ (((x.toInt ≠ 38 ∧ x.toInt ≠ 124 ∧ x.toInt ≠ 41) → v.toInt = 0) ∧ (u 36 66).toInt ≤ (i 36 66).toInt + 1) ∧ ((x.toInt = 38 ∨ x.toInt = 124) → (v.toInt = 1 ∧ (stkV (u 418) (u 36 65).toInt.toNat) = (mpop (bnd x.toInt) (stkV (i 418) (i 36 65).toInt.toNat) (stkS (i 419) (i 36 66).toInt.toNat)).1 ∧ (stkS (u 419) (u 36 66).toInt.toNat) = x.toInt :: (mpop (bnd x.toInt) (stkV (i 418) (i 36 65).toInt.toNat) (stkS (i 419) (i 36 66).toInt.toNat)).2)) ∧ (x.toInt = 41 → ((v.toInt = 0 ∧ (mpop (bnd x.toInt) (stkV (i 418) (i 36 65).toInt.toNat) (stkS (i 419) (i 36 66).toInt.toNat)).2 = []) ∨ (v.toInt = 1 ∧ ∃ (c : Int) (s2 : List Int), (mpop (bnd x.toInt) (stkV (i 418) (i 36 65).toInt.toNat) (stkS (i 419) (i 36 66).toInt.toNat)).2 = c :: s2 ∧ mneg (mpop (bnd x.toInt) (stkV (i 418) (i 36 65).toInt.toNat) (stkS (i 419) (i 36 66).toInt.toNat)).1 s2 = ((stkV (u 418) (u 36 65).toInt.toNat), (stkS (u 419) (u 36 66).toInt.toNat))))) ∧ (v.toInt = 1 → ((x.toInt ≠ 41 → (u 36 65).toInt = (nbS (stkS (u 419) (u 36 66).toInt.toNat) : Int)) ∧ (x.toInt = 41 → (u 36 65).toInt = (nbS (stkS (u 419) (u 36 66).toInt.toNat) : Int) + 1)))) (fun u => hwc g ka u r L d) (fun _ => []) A) ([.ref (g 36), .int x] : List Value).toArray s 0 0 A) (F0 m 20 ls []) := by
          intro fuel_lp_129
          induction fuel_lp_129 with
          | zero => intros; omega
          | succ fuel_lp_129 ih_lp_129 =>
            intro j1 H locs ls hm hi_lp_129_0 hi_lp_129_1 hi_lp_129_2 hO_j1 hfr_j1 hl hH hS
            have hnv := hi_lp_129_2
            refine lv_aload_n hx hb dX12_operator_20 rfl (lv_at hl 0 rfl) ?_
            have bx_130 : (0 : Int) ≤ (j1 36 66).toInt ∧ (j1 36 66).toInt ≤ 42 := hO_j1 36 66
            refine h_geti (ci := 12) (C := RX12) (F := TX12) (N := 86) hx hb hts in12 hown hK hH (by decide) (rfl : kd 36 = 12) (by decide) rfl 66 (by decide) wd0 (fun _ h9 => h9) (by decide) rfl dX12_operator_21 ?_
            refine lv_if_le (tgt := 71) hx hb dX12_operator_24 (by decide) (fun c_131 => ?_) (fun c_131 => ?_)
            · skip
              have h_132 := s_le (rfl : (j1 36 66).toInt = _) (show (0 : Int32).toInt = 0 from rfl) c_131
              refine lv_iload_n hx hb dX12_operator_71 rfl (lv_at hl 1 rfl) ?_
              refine lv_bipush (v := 41) hx hb dX12_operator_72 (by decide) ?_
              refine lv_icmp_eq (tgt := 99) hx hb dX12_operator_74 (by decide) (fun _ => ?_) (fun h => absurd (p_eq (rfl : x.toInt = _) (show (41 : Int32).toInt = 41 from rfl) (by omega)) h)
              refine lv_aload_n hx hb dX12_operator_99 rfl (lv_at hl 0 rfl) ?_
              refine h_geti (ci := 12) (C := RX12) (F := TX12) (N := 86) hx hb hts in12 hown hK hH (by decide) (rfl : kd 36 = 12) (by decide) rfl 66 (by decide) wd0 (fun _ h9 => h9) (by decide) rfl dX12_operator_100 ?_
              refine lv_if_ne (tgt := 108) hx hb dX12_operator_103 (by decide) (fun h => absurd (p_eq (rfl : (j1 36 66).toInt = _) (show (0 : Int32).toInt = 0 from rfl) (by omega)) h) (fun _ => ?_)
              refine lv_iconst (v := 0) hx hb dX12_operator_106 (by decide) ?_
              have hlv_133 : (0 : Int32).toInt = 0 := rfl
              have hP : mpop (bnd x.toInt) (stkV (i 418) (i 36 65).toInt.toNat) (stkS (i 419) (i 36 66).toInt.toNat) = ((stkV (j1 418) (j1 36 65).toInt.toNat), (stkS (i 419) (j1 36 66).toInt.toNat)) := by
                  have h9 := hi_lp_129_1
                  by_cases q : (j1 36 66).toInt ≤ 0
                  · rw [show (j1 36 66).toInt.toNat = 0 by omega] at h9 ⊢
                    exact h9.symm
                  · have hSs := stkS_s (f := i 419) (n := (j1 36 66).toInt) (m := ((j1 36 66).toInt - 1).toNat) (by omega)
                    rw [hSs, mpop_stop (by omega), ← hSs] at h9
                    exact h9.symm
              exact sj_zret hx hb hr hlocks (by decide +kernel) hS j1 ⟨hO_j1, (fun a b ha => (hfr_j1 a b (by omega))), ⟨by decide, by decide⟩, ⟨fun h => by omega, by omega⟩, (fun h => by exfalso; omega), (fun h => Or.inl ⟨by omega, by rw [hP, show (j1 36 66).toInt.toNat = 0 by omega]; rfl⟩), (fun h => by exfalso; omega)⟩ hH (sj_Knil hK) (Nat.le_of_ble_eq_true rfl) (Nat.le_of_ble_eq_true rfl) dX12_operator_107
            · skip
              have h_134 := s_nle (rfl : (j1 36 66).toInt = _) (show (0 : Int32).toInt = 0 from rfl) c_131
              refine lv_aload_n hx hb dX12_operator_27 rfl (lv_at hl 0 rfl) ?_
              refine h_getr (ci := 12) (C := RX12) (F := TX12) (N := 86) hx hb hts in12 hown hK hH (by decide) (rfl : kd 36 = 12) (by decide) rfl 64 (by decide) wd1 (fun _ h9 => h9) (by decide) rfl (t := 419) (hR 36 64 rfl) (by decide) dX12_operator_28 ?_
              refine lv_aload_n hx hb dX12_operator_31 rfl (lv_at hl 0 rfl) ?_
              refine h_geti (ci := 12) (C := RX12) (F := TX12) (N := 86) hx hb hts in12 hown hK hH (by decide) (rfl : kd 36 = 12) (by decide) rfl 66 (by decide) wd0 (fun _ h9 => h9) (by decide) rfl dX12_operator_32 ?_
              refine lv_iconst (v := 1) hx hb dX12_operator_35 (by decide) ?_
              refine lv_isub hx hb dX12_operator_36 ?_
              obtain ⟨z_135, ez_135, hz_135⟩ := s_sub (rfl : (j1 36 66).toInt = _) (show (1 : Int32).toInt = 1 from rfl) (by omega) (by omega)
              refine sj_i ez_135 ?_
              have bx_136 : (0 : Int) ≤ (i 419 ((j1 36 66).toInt - 1).toNat).toInt ∧ (i 419 ((j1 36 66).toInt - 1).toNat).toInt ≤ 65535 := hO 419 ((j1 36 66).toInt - 1).toNat
              refine h_cald hx hb hK hH (by decide) (rfl : kd 419 = 14) (s_vin (N := 42) (rfl : z_135.toInt = _) (rfl : ln 419 = 42) (by omega) (by omega)) dX12_operator_37 ?_
              have ek_137 : z_135.toNatClampNeg = ((j1 36 66).toInt - 1).toNat := (s_cl (show z_135.toInt = (j1 36 66).toInt - 1 by omega))
              refine sj_i (y := (i 419 ((j1 36 66).toInt - 1).toNat)) (by rw [ek_137]; exact (hfr_j1 419 ((j1 36 66).toInt - 1).toNat (by omega))) ?_
              refine lv_bipush (v := 40) hx hb dX12_operator_38 (by decide) ?_
              refine lv_icmp_eq (tgt := 71) hx hb dX12_operator_40 (by decide) (fun c_138 => ?_) (fun c_138 => ?_)
              · skip
                have h_139 := s_eq (rfl : (i 419 ((j1 36 66).toInt - 1).toNat).toInt = _) (show (40 : Int32).toInt = 40 from rfl) c_138
                refine lv_iload_n hx hb dX12_operator_71 rfl (lv_at hl 1 rfl) ?_
                refine lv_bipush (v := 41) hx hb dX12_operator_72 (by decide) ?_
                refine lv_icmp_eq (tgt := 99) hx hb dX12_operator_74 (by decide) (fun _ => ?_) (fun h => absurd (p_eq (rfl : x.toInt = _) (show (41 : Int32).toInt = 41 from rfl) (by omega)) h)
                refine lv_aload_n hx hb dX12_operator_99 rfl (lv_at hl 0 rfl) ?_
                refine h_geti (ci := 12) (C := RX12) (F := TX12) (N := 86) hx hb hts in12 hown hK hH (by decide) (rfl : kd 36 = 12) (by decide) rfl 66 (by decide) wd0 (fun _ h9 => h9) (by decide) rfl dX12_operator_100 ?_
                refine lv_if_ne (tgt := 108) hx hb dX12_operator_103 (by decide) (fun _ => ?_) (fun h => absurd h (p_ne (rfl : (j1 36 66).toInt = _) (show (0 : Int32).toInt = 0 from rfl) (by omega)))
                refine lv_aload_n hx hb dX12_operator_108 rfl (lv_at hl 0 rfl) ?_
                refine lv_dup hx hb dX12_operator_109 rfl ?_
                refine h_geti (ci := 12) (C := RX12) (F := TX12) (N := 86) hx hb hts in12 hown hK hH (by decide) (rfl : kd 36 = 12) (by decide) rfl 66 (by decide) wd0 (fun _ h9 => h9) (by decide) rfl dX12_operator_110 ?_
                refine lv_iconst (v := 1) hx hb dX12_operator_113 (by decide) ?_
                refine lv_isub hx hb dX12_operator_114 ?_
                obtain ⟨z_140, ez_140, hz_140⟩ := s_sub (rfl : (j1 36 66).toInt = _) (show (1 : Int32).toInt = 1 from rfl) (by omega) (by omega)
                refine sj_i ez_140 ?_
                have hO_141 := okp hO_j1 (n := 36) (k := 66) (v := z_140) (show (0 : Int) ≤ (z_140 : Int32).toInt ∧ (z_140 : Int32).toInt ≤ 42 from ⟨by omega, by omega⟩)
                refine h_puti (ty := .int) (ci := 12) (C := RX12) (F := TX12) (N := 86) hx hb hts in12 tyX12 tyX12_ok nmX12 hown hK hH hS (by decide) (rfl : kd 36 = 12) (by decide) rfl 66 (by decide) wd0 (fun _ h9 => h9) rfl (by decide +kernel) rfl rfl (by decide) rfl dX12_operator_115 (fun H locs hH hS => ?_)
                refine lv_aload_n hx hb dX12_operator_118 rfl (lv_at hl 0 rfl) ?_
                have hw_142 : ((up2 j1 36 66 z_140) 36 65).toInt = ((j1 36 65) : Int32).toInt := congrArg Int32.toInt ((up2_k _ _ (by decide)))
                have hw_143 : ((up2 j1 36 66 z_140) 36 66).toInt = (z_140 : Int32).toInt := congrArg Int32.toInt ((up2_at _ _ _ _))
                refine x_callv (va_runV (As := []) (rest := []) ⟨hx, hb, hml, hown, hts⟩ (m_negate l D g ka ad (up2 j1 36 66 z_140) r L d  hO_141 hR H.size (by first | omega | decide)) (cwV 0 hts gX12_operator_X12_negate rfl rfl rfl (by decide +kernel) ⟨(Nat.le_of_ble_eq_true rfl), (Nat.le_of_ble_eq_true rfl)⟩) (x_preV (q := (RX12, TX12, 86)) hH hK (q_obj (by decide) (rfl : kd 36 = 12) (by decide)) rfl gxb (gxw hE hS (x_F hH hS hA))) rfl rfl hl.1 rfl (lv_room (Nat.le_of_ble_eq_true rfl)) dX12_operator_119 ⟨(Nat.le_of_ble_eq_true rfl), (Nat.le_of_ble_eq_true rfl)⟩) hH hS hA rfl rfl (fun im_146 H locs hw_145 hH hS => ?_)
                have hH : sj_H D A (hwc g ka im_146 r L d) H := hH
                obtain ⟨hO_148, hfr_147, he_149, hx2_150⟩ := hw_145
                refine lv_iconst (v := 1) hx hb dX12_operator_122 (by decide) ?_
                have hlv_151 : (1 : Int32).toInt = 1 := rfl
                have hP : mpop (bnd x.toInt) (stkV (i 418) (i 36 65).toInt.toNat) (stkS (i 419) (i 36 66).toInt.toNat) = ((stkV (j1 418) (j1 36 65).toInt.toNat), (stkS (i 419) (j1 36 66).toInt.toNat)) := by
                    have h9 := hi_lp_129_1
                    by_cases q : (j1 36 66).toInt ≤ 0
                    · rw [show (j1 36 66).toInt.toNat = 0 by omega] at h9 ⊢
                      exact h9.symm
                    · have hSs := stkS_s (f := i 419) (n := (j1 36 66).toInt) (m := ((j1 36 66).toInt - 1).toNat) (by omega)
                      rw [hSs, mpop_stop (by omega), ← hSs] at h9
                      exact h9.symm
                have hSs := stkS_s (f := i 419) (n := (j1 36 66).toInt) (m := ((j1 36 66).toInt - 1).toNat) (by omega)
                have hb9 : (up2 j1 36 66 z_140) 418 = j1 418 := up2_n _ _ (by decide)
                have hb8 : (up2 j1 36 66 z_140) 419 = i 419 := (up2_n _ _ (by decide)).trans (funext fun b9 => hfr_j1 419 b9 (by omega))
                have hng : mneg (stkV (j1 418) (j1 36 65).toInt.toNat) (stkS (i 419) ((j1 36 66).toInt - 1).toNat) = ((stkV (im_146 418) (im_146 36 65).toInt.toNat), (stkS (im_146 419) (im_146 36 66).toInt.toNat)) := by
                    have h9 := hx2_150
                    rw [hb9, hb8, show ((up2 j1 36 66 z_140) 36 65).toInt = (j1 36 65).toInt by omega, show ((up2 j1 36 66 z_140) 36 66).toInt.toNat = ((j1 36 66).toInt - 1).toNat by omega] at h9
                    rw [show im_146 419 = i 419 from ((funext fun b9 => hfr_147 419 b9 (by omega)).trans ((up2_n _ _ (by decide)).trans (funext fun b9 => hfr_j1 419 b9 (by omega))))]
                    exact h9
                exact sj_zret hx hb hr hlocks (by decide +kernel) hS im_146 ⟨hO_148, (fun a b ha => ((hfr_147 a b (by omega)).trans ((up2_o _ _ (by omega)).trans (hfr_j1 a b (by omega))))), ⟨by decide, by decide⟩, ⟨fun h => by omega, by omega⟩, (fun h => by exfalso; omega), (fun h => Or.inr ⟨by omega, (i 419 ((j1 36 66).toInt - 1).toNat).toInt, (stkS (i 419) ((j1 36 66).toInt - 1).toNat), by rw [hP, hSs], by rw [hP]; exact hng⟩), (fun h => ⟨fun h2 => by exfalso; omega, fun h2 => by
          have h8 := mneg_nb (stkS (i 419) ((j1 36 66).toInt - 1).toNat) (stkV (j1 418) (j1 36 65).toInt.toNat)
          rw [hng] at h8
          have hnb := nbS_or (i 419 ((j1 36 66).toInt - 1).toNat).toInt (stkS (i 419) ((j1 36 66).toInt - 1).toNat)
          rw [← hSs] at hnb
          have hb := bnd_0 (i 419 ((j1 36 66).toInt - 1).toNat).toInt
          have hbx : bnd x.toInt = 0 := by rw [h2]; rfl
          dsimp only at h8
          omega⟩)⟩ hH (sj_Knil hK) (Nat.le_of_ble_eq_true rfl) (Nat.le_of_ble_eq_true rfl) dX12_operator_123
              · skip
                have h_152 := s_ne (rfl : (i 419 ((j1 36 66).toInt - 1).toNat).toInt = _) (show (40 : Int32).toInt = 40 from rfl) c_138
                refine lv_aload_n hx hb dX12_operator_43 rfl (lv_at hl 0 rfl) ?_
                refine h_getr (ci := 12) (C := RX12) (F := TX12) (N := 86) hx hb hts in12 hown hK hH (by decide) (rfl : kd 36 = 12) (by decide) rfl 64 (by decide) wd1 (fun _ h9 => h9) (by decide) rfl (t := 419) (hR 36 64 rfl) (by decide) dX12_operator_44 ?_
                refine lv_aload_n hx hb dX12_operator_47 rfl (lv_at hl 0 rfl) ?_
                refine h_geti (ci := 12) (C := RX12) (F := TX12) (N := 86) hx hb hts in12 hown hK hH (by decide) (rfl : kd 36 = 12) (by decide) rfl 66 (by decide) wd0 (fun _ h9 => h9) (by decide) rfl dX12_operator_48 ?_
                refine lv_iconst (v := 1) hx hb dX12_operator_51 (by decide) ?_
                refine lv_isub hx hb dX12_operator_52 ?_
                obtain ⟨z_153, ez_153, hz_153⟩ := s_sub (rfl : (j1 36 66).toInt = _) (show (1 : Int32).toInt = 1 from rfl) (by omega) (by omega)
                refine sj_i ez_153 ?_
                refine h_cald hx hb hK hH (by decide) (rfl : kd 419 = 14) (s_vin (N := 42) (rfl : z_153.toInt = _) (rfl : ln 419 = 42) (by omega) (by omega)) dX12_operator_53 ?_
                have ek_154 : z_153.toNatClampNeg = ((j1 36 66).toInt - 1).toNat := (s_cl (show z_153.toInt = (j1 36 66).toInt - 1 by omega))
                refine sj_i (y := (i 419 ((j1 36 66).toInt - 1).toNat)) (by rw [ek_154]; exact (hfr_j1 419 ((j1 36 66).toInt - 1).toNat (by omega))) ?_
                refine x_calli (va_runS (As := [.int (i 419 ((j1 36 66).toInt - 1).toNat)]) (rest := []) ⟨hx, hb, hml, hown, hts⟩ (m_binding l D g ka ad j1 r L d (i 419 ((j1 36 66).toInt - 1).toNat) hO_j1 hR H.size ) (cwS 1 hts gX12_operator_X12_binding rfl rfl rfl (by decide +kernel) ⟨(Nat.le_of_ble_eq_true rfl), (Nat.le_of_ble_eq_true rfl)⟩) (x_preS hH hK gxb (gxw hE hS (x_F hH hS hA))) rfl rfl hl.1 rfl (lv_room (Nat.le_of_ble_eq_true rfl)) dX12_operator_54 ⟨(Nat.le_of_ble_eq_true rfl), (Nat.le_of_ble_eq_true rfl)⟩) hH hS hA rfl rfl (fun r_155 _ H locs hw_156 hH hS => ?_)
                obtain ⟨hr_158, he_159⟩ := hw_156
                have hr_158 : (0 : Int) ≤ r_155.toInt ∧ r_155.toInt ≤ 2 := hr_158
                refine lv_iload_n hx hb dX12_operator_57 rfl (lv_at hl 1 rfl) ?_
                refine x_calli (va_runS (As := [.int x]) (rest := [.int r_155]) ⟨hx, hb, hml, hown, hts⟩ (m_binding l D g ka ad j1 r L d x hO_j1 hR H.size ) (cwS 1 hts gX12_operator_X12_binding rfl rfl rfl (by decide +kernel) ⟨(Nat.le_of_ble_eq_true rfl), (Nat.le_of_ble_eq_true rfl)⟩) (x_preS hH hK gxb (gxw hE hS (x_F hH hS hA))) rfl rfl hl.1 rfl (lv_room (Nat.le_of_ble_eq_true rfl)) dX12_operator_58 ⟨(Nat.le_of_ble_eq_true rfl), (Nat.le_of_ble_eq_true rfl)⟩) hH hS hA rfl rfl (fun r_160 _ H locs hw_161 hH hS => ?_)
                obtain ⟨hr_163, he_164⟩ := hw_161
                have hr_163 : (0 : Int) ≤ r_160.toInt ∧ r_160.toInt ≤ 2 := hr_163
                refine lv_icmp_lt (tgt := 71) hx hb dX12_operator_61 (by decide) (fun c_165 => ?_) (fun c_165 => ?_)
                · skip
                  have h_166 := s_lt (rfl : r_155.toInt = _) (rfl : r_160.toInt = _) c_165
                  refine lv_iload_n hx hb dX12_operator_71 rfl (lv_at hl 1 rfl) ?_
                  refine lv_bipush (v := 41) hx hb dX12_operator_72 (by decide) ?_
                  refine lv_icmp_eq (tgt := 99) hx hb dX12_operator_74 (by decide) (fun _ => ?_) (fun h => absurd (p_eq (rfl : x.toInt = _) (show (41 : Int32).toInt = 41 from rfl) (by omega)) h)
                  refine lv_aload_n hx hb dX12_operator_99 rfl (lv_at hl 0 rfl) ?_
                  refine h_geti (ci := 12) (C := RX12) (F := TX12) (N := 86) hx hb hts in12 hown hK hH (by decide) (rfl : kd 36 = 12) (by decide) rfl 66 (by decide) wd0 (fun _ h9 => h9) (by decide) rfl dX12_operator_100 ?_
                  refine lv_if_ne (tgt := 108) hx hb dX12_operator_103 (by decide) (fun _ => ?_) (fun h => absurd h (p_ne (rfl : (j1 36 66).toInt = _) (show (0 : Int32).toInt = 0 from rfl) (by omega)))
                  refine lv_aload_n hx hb dX12_operator_108 rfl (lv_at hl 0 rfl) ?_
                  refine lv_dup hx hb dX12_operator_109 rfl ?_
                  refine h_geti (ci := 12) (C := RX12) (F := TX12) (N := 86) hx hb hts in12 hown hK hH (by decide) (rfl : kd 36 = 12) (by decide) rfl 66 (by decide) wd0 (fun _ h9 => h9) (by decide) rfl dX12_operator_110 ?_
                  refine lv_iconst (v := 1) hx hb dX12_operator_113 (by decide) ?_
                  refine lv_isub hx hb dX12_operator_114 ?_
                  obtain ⟨z_167, ez_167, hz_167⟩ := s_sub (rfl : (j1 36 66).toInt = _) (show (1 : Int32).toInt = 1 from rfl) (by omega) (by omega)
                  refine sj_i ez_167 ?_
                  have hO_168 := okp hO_j1 (n := 36) (k := 66) (v := z_167) (show (0 : Int) ≤ (z_167 : Int32).toInt ∧ (z_167 : Int32).toInt ≤ 42 from ⟨by omega, by omega⟩)
                  refine h_puti (ty := .int) (ci := 12) (C := RX12) (F := TX12) (N := 86) hx hb hts in12 tyX12 tyX12_ok nmX12 hown hK hH hS (by decide) (rfl : kd 36 = 12) (by decide) rfl 66 (by decide) wd0 (fun _ h9 => h9) rfl (by decide +kernel) rfl rfl (by decide) rfl dX12_operator_115 (fun H locs hH hS => ?_)
                  refine lv_aload_n hx hb dX12_operator_118 rfl (lv_at hl 0 rfl) ?_
                  have hw_169 : ((up2 j1 36 66 z_167) 36 65).toInt = ((j1 36 65) : Int32).toInt := congrArg Int32.toInt ((up2_k _ _ (by decide)))
                  have hw_170 : ((up2 j1 36 66 z_167) 36 66).toInt = (z_167 : Int32).toInt := congrArg Int32.toInt ((up2_at _ _ _ _))
                  refine x_callv (va_runV (As := []) (rest := []) ⟨hx, hb, hml, hown, hts⟩ (m_negate l D g ka ad (up2 j1 36 66 z_167) r L d  hO_168 hR H.size (by first | omega | decide)) (cwV 0 hts gX12_operator_X12_negate rfl rfl rfl (by decide +kernel) ⟨(Nat.le_of_ble_eq_true rfl), (Nat.le_of_ble_eq_true rfl)⟩) (x_preV (q := (RX12, TX12, 86)) hH hK (q_obj (by decide) (rfl : kd 36 = 12) (by decide)) rfl gxb (gxw hE hS (x_F hH hS hA))) rfl rfl hl.1 rfl (lv_room (Nat.le_of_ble_eq_true rfl)) dX12_operator_119 ⟨(Nat.le_of_ble_eq_true rfl), (Nat.le_of_ble_eq_true rfl)⟩) hH hS hA rfl rfl (fun im_173 H locs hw_172 hH hS => ?_)
                  have hH : sj_H D A (hwc g ka im_173 r L d) H := hH
                  obtain ⟨hO_175, hfr_174, he_176, hx2_177⟩ := hw_172
                  refine lv_iconst (v := 1) hx hb dX12_operator_122 (by decide) ?_
                  have hlv_178 : (1 : Int32).toInt = 1 := rfl
                  have hP : mpop (bnd x.toInt) (stkV (i 418) (i 36 65).toInt.toNat) (stkS (i 419) (i 36 66).toInt.toNat) = ((stkV (j1 418) (j1 36 65).toInt.toNat), (stkS (i 419) (j1 36 66).toInt.toNat)) := by
                      have h9 := hi_lp_129_1
                      by_cases q : (j1 36 66).toInt ≤ 0
                      · rw [show (j1 36 66).toInt.toNat = 0 by omega] at h9 ⊢
                        exact h9.symm
                      · have hSs := stkS_s (f := i 419) (n := (j1 36 66).toInt) (m := ((j1 36 66).toInt - 1).toNat) (by omega)
                        rw [hSs, mpop_stop (by omega), ← hSs] at h9
                        exact h9.symm
                  have hSs := stkS_s (f := i 419) (n := (j1 36 66).toInt) (m := ((j1 36 66).toInt - 1).toNat) (by omega)
                  have hb9 : (up2 j1 36 66 z_167) 418 = j1 418 := up2_n _ _ (by decide)
                  have hb8 : (up2 j1 36 66 z_167) 419 = i 419 := (up2_n _ _ (by decide)).trans (funext fun b9 => hfr_j1 419 b9 (by omega))
                  have hng : mneg (stkV (j1 418) (j1 36 65).toInt.toNat) (stkS (i 419) ((j1 36 66).toInt - 1).toNat) = ((stkV (im_173 418) (im_173 36 65).toInt.toNat), (stkS (im_173 419) (im_173 36 66).toInt.toNat)) := by
                      have h9 := hx2_177
                      rw [hb9, hb8, show ((up2 j1 36 66 z_167) 36 65).toInt = (j1 36 65).toInt by omega, show ((up2 j1 36 66 z_167) 36 66).toInt.toNat = ((j1 36 66).toInt - 1).toNat by omega] at h9
                      rw [show im_173 419 = i 419 from ((funext fun b9 => hfr_174 419 b9 (by omega)).trans ((up2_n _ _ (by decide)).trans (funext fun b9 => hfr_j1 419 b9 (by omega))))]
                      exact h9
                  exact sj_zret hx hb hr hlocks (by decide +kernel) hS im_173 ⟨hO_175, (fun a b ha => ((hfr_174 a b (by omega)).trans ((up2_o _ _ (by omega)).trans (hfr_j1 a b (by omega))))), ⟨by decide, by decide⟩, ⟨fun h => by omega, by omega⟩, (fun h => by exfalso; omega), (fun h => Or.inr ⟨by omega, (i 419 ((j1 36 66).toInt - 1).toNat).toInt, (stkS (i 419) ((j1 36 66).toInt - 1).toNat), by rw [hP, hSs], by rw [hP]; exact hng⟩), (fun h => ⟨fun h2 => by exfalso; omega, fun h2 => by
          have h8 := mneg_nb (stkS (i 419) ((j1 36 66).toInt - 1).toNat) (stkV (j1 418) (j1 36 65).toInt.toNat)
          rw [hng] at h8
          have hnb := nbS_or (i 419 ((j1 36 66).toInt - 1).toNat).toInt (stkS (i 419) ((j1 36 66).toInt - 1).toNat)
          rw [← hSs] at hnb
          have hb := bnd_0 (i 419 ((j1 36 66).toInt - 1).toNat).toInt
          have hbx : bnd x.toInt = 0 := by rw [h2]; rfl
          dsimp only at h8
          omega⟩)⟩ hH (sj_Knil hK) (Nat.le_of_ble_eq_true rfl) (Nat.le_of_ble_eq_true rfl) dX12_operator_123
                · skip
                  have h_179 := s_nlt (rfl : r_155.toInt = _) (rfl : r_160.toInt = _) c_165
                  refine lv_aload_n hx hb dX12_operator_64 rfl (lv_at hl 0 rfl) ?_
                  have hj9 : (j1 419 ((j1 36 66).toInt - 1).toNat).toInt = (i 419 ((j1 36 66).toInt - 1).toNat).toInt := congrArg Int32.toInt (hfr_j1 419 ((j1 36 66).toInt - 1).toNat (by omega))
                  have hSs := stkS_s (f := i 419) (n := (j1 36 66).toInt) (m := ((j1 36 66).toInt - 1).toNat) (by omega)
                  have hnb := nbS_or (i 419 ((j1 36 66).toInt - 1).toNat).toInt (stkS (i 419) ((j1 36 66).toInt - 1).toNat)
                  rw [← hSs] at hnb
                  refine x_callv (va_runV (As := []) (rest := []) ⟨hx, hb, hml, hown, hts⟩ (m_applyTop l D g ka ad j1 r L d  hO_j1 hR H.size (by first | omega | decide) (by first | omega | decide)) (cwV 0 hts gX12_operator_X12_applyTop rfl rfl rfl (by decide +kernel) ⟨(Nat.le_of_ble_eq_true rfl), (Nat.le_of_ble_eq_true rfl)⟩) (x_preV (q := (RX12, TX12, 86)) hH hK (q_obj (by decide) (rfl : kd 36 = 12) (by decide)) rfl gxb (gxw hE hS (x_F hH hS hA))) rfl rfl hl.1 rfl (lv_room (Nat.le_of_ble_eq_true rfl)) dX12_operator_65 ⟨(Nat.le_of_ble_eq_true rfl), (Nat.le_of_ble_eq_true rfl)⟩) hH hS hA rfl rfl (fun im_182 H locs hw_181 hH hS => ?_)
                  have hH : sj_H D A (hwc g ka im_182 r L d) H := hH
                  obtain ⟨hO_184, hfr_183, he_185, hx2_186⟩ := hw_181
                  refine lv_goto (tgt := 20) hx hb dX12_operator_68 (by decide) ?_
                  exact ih_lp_129  _ _ _ ls (by omega) (by omega) (by
          have h9 := hi_lp_129_1
          rw [hSs, mpop_go (by omega)] at h9
          rw [hx2_186, hj9, show (im_182 36 66).toInt.toNat = ((j1 36 66).toInt - 1).toNat by omega]
          exact h9) (by rw [show (im_182 36 66).toInt.toNat = ((j1 36 66).toInt - 1).toNat by omega]; omega) hO_184 (fun a b ha => ((hfr_183 a b (by omega)).trans (hfr_j1 a b (by omega)))) (lv_sub hl [0, 1] rfl) hH hS
        exact lp_129 _  _ _ _ ls (Nat.lt_succ_self _) (by omega) rfl hnb0 hO (fun a b ha => rfl) (lv_sub hl [0, 1] rfl) hH hS
      · skip
        have h_187 := s_ne (rfl : x.toInt = _) (show (41 : Int32).toInt = 41 from rfl) c_127
        refine lv_iconst (v := 0) hx hb dX12_operator_18 (by decide) ?_
        have hlv_188 : (0 : Int32).toInt = 0 := rfl
        exact sj_zret hx hb hr hlocks (by decide +kernel) hS i ⟨hO, (fun a b ha => rfl), ⟨by decide, by decide⟩, ⟨fun h => by omega, by omega⟩, (fun h => by exfalso; omega), (fun h => by exfalso; omega), (fun h => by exfalso; omega)⟩ hH (sj_Knil hK) (Nat.le_of_ble_eq_true rfl) (Nat.le_of_ble_eq_true rfl) dX12_operator_19
