/-- the characters of the text that the reference keeps at t, and whether it holds for a row of tags -/
def tgLM (i : Nat → Nat → Int32) (t : Nat) : List Int := tgL (i 416) (40 * t) (i 417 t).toInt.toNat
def tgHM (i : Nat → Nat → Int32) (t : Nat) (y : Int32) : Bool := decide (sqz (tgLM i t) = []) || (mr (tb y) (tgLM i t) true [] [] == some true)
theorem tgHM_v {i : Nat → Nat → Int32} {t : Nat} {y : Int32} {v : Int} (h1 : sqz (tgLM i t) = [] → v = 1) (h2 : sqz (tgLM i t) ≠ [] → ((mr (tb y) (tgLM i t) true [] [] = none → v = -1) ∧ (∀ b : Bool, mr (tb y) (tgLM i t) true [] [] = some b → v = (if b then 1 else 0)))) : (v = 1 ∧ tgHM i t y = true) ∨ (v ≠ 1 ∧ tgHM i t y = false) := by
  unfold tgHM
  by_cases q : sqz (tgLM i t) = []
  · exact Or.inl ⟨h1 q, by simp [q]⟩
  · have h3 := h2 q
    cases h4 : mr (tb y) (tgLM i t) true [] [] with
    | none => exact Or.inr ⟨by rw [h3.1 h4]; decide, by simp [q]⟩
    | some b =>
      have h5 := h3.2 b h4
      cases b with
      | true => exact Or.inl ⟨h5, by simp⟩
      | false => exact Or.inr ⟨by rw [h5]; decide, by simp [q]⟩
theorem dX12_holds_0 : decode cX12_holds 0 = .ok (.aload_n 0, 1) := by decide +kernel
theorem dX12_holds_1 : decode cX12_holds 1 = .ok (.aload_n 0, 1) := by decide +kernel
theorem dX12_holds_2 : decode cX12_holds 2 = .ok (.getfield 397, 3) := by decide +kernel
theorem dX12_holds_5 : decode cX12_holds 5 = .ok (.bipush 40, 2) := by decide +kernel
theorem dX12_holds_7 : decode cX12_holds 7 = .ok (.iload_n 1, 1) := by decide +kernel
theorem dX12_holds_8 : decode cX12_holds 8 = .ok (.imul, 1) := by decide +kernel
theorem dX12_holds_9 : decode cX12_holds 9 = .ok (.aload_n 0, 1) := by decide +kernel
theorem dX12_holds_10 : decode cX12_holds 10 = .ok (.getfield 394, 3) := by decide +kernel
theorem dX12_holds_13 : decode cX12_holds 13 = .ok (.iload_n 1, 1) := by decide +kernel
theorem dX12_holds_14 : decode cX12_holds 14 = .ok (.iaload, 1) := by decide +kernel
theorem dX12_holds_15 : decode cX12_holds 15 = .ok (.iload_n 2, 1) := by decide +kernel
theorem dX12_holds_16 : decode cX12_holds 16 = .ok (.invokevirtual 400, 3) := by decide +kernel
theorem dX12_holds_19 : decode cX12_holds 19 = .ok (.iconst 1, 1) := by decide +kernel
theorem dX12_holds_20 : decode cX12_holds 20 = .ok (.if_icmp .ne 7, 3) := by decide +kernel
theorem dX12_holds_27 : decode cX12_holds 27 = .ok (.iconst 0, 1) := by decide +kernel
theorem dX12_holds_28 : decode cX12_holds 28 = .ok (.ireturn, 1) := by decide +kernel
theorem dX12_holds_23 : decode cX12_holds 23 = .ok (.iconst 1, 1) := by decide +kernel
theorem dX12_holds_24 : decode cX12_holds 24 = .ok (.goto 4, 3) := by decide +kernel
theorem gw_X12_test : wsX12_test.all goodWord = true := by decide +kernel
theorem gX12_holds_X12_test : GoodIn wsX12_holds (wsV RX12 400 RX12 yX12_test wsX12_test) := goodIn_app (goodIn_sub (List.forall_mem_cons.mpr ⟨(List.mem_cons_of_mem _ (List.mem_append_left _ (List.mem_append_left _ lm2))), List.forall_mem_cons.mpr ⟨(List.mem_cons_of_mem _ (List.mem_append_left _ (List.mem_append_left _ lm3))), List.forall_mem_cons.mpr ⟨(List.mem_cons_of_mem _ (List.mem_append_left _ (List.mem_append_left _ lm4))), List.forall_mem_cons.mpr ⟨(List.mem_cons_of_mem _ (List.mem_append_left _ (List.mem_append_left _ lm5))), (fun _ h => absurd h List.not_mem_nil)⟩⟩⟩⟩) (by decide +kernel)) (goodIn_sub (by unfold wsX12_test; exact List.forall_mem_cons.mpr ⟨(List.mem_cons_of_mem _ (List.mem_append_left _ (List.mem_append_left _ lm6))), List.forall_mem_append.mpr ⟨List.forall_mem_cons.mpr ⟨(List.mem_cons_of_mem _ (List.mem_append_left _ (List.mem_append_left _ lm7))), List.forall_mem_cons.mpr ⟨(List.mem_cons_of_mem _ (List.mem_append_left _ (List.mem_append_left _ lm8))), List.forall_mem_cons.mpr ⟨(List.mem_cons_of_mem _ (List.mem_append_left _ (List.mem_append_left _ lm9))), List.forall_mem_cons.mpr ⟨(List.mem_cons_of_mem _ (List.mem_append_left _ (List.mem_append_left _ lm10))), List.forall_mem_cons.mpr ⟨(List.mem_cons_of_mem _ (List.mem_append_left _ (List.mem_append_left _ lm11))), List.forall_mem_cons.mpr ⟨(List.mem_cons_of_mem _ (List.mem_append_left _ (List.mem_append_left _ lm12))), List.forall_mem_cons.mpr ⟨(List.mem_cons_of_mem _ (List.mem_append_left _ (List.mem_append_left _ lm13))), List.forall_mem_cons.mpr ⟨(List.mem_cons_of_mem _ (List.mem_append_left _ (List.mem_append_left _ lm5))), List.forall_mem_cons.mpr ⟨(List.mem_cons_of_mem _ (List.mem_append_left _ (List.mem_append_left _ lm14))), List.forall_mem_cons.mpr ⟨(List.mem_cons_of_mem _ (List.mem_append_left _ (List.mem_append_left _ lm15))), List.forall_mem_cons.mpr ⟨(List.mem_cons_of_mem _ (List.mem_append_left _ (List.mem_append_left _ lm16))), List.forall_mem_cons.mpr ⟨(List.mem_cons_of_mem _ (List.mem_append_left _ (List.mem_append_left _ lm17))), List.forall_mem_cons.mpr ⟨(List.mem_cons_of_mem _ (List.mem_append_left _ (List.mem_append_left _ lm18))), List.forall_mem_cons.mpr ⟨(List.mem_cons_of_mem _ (List.mem_append_left _ (List.mem_append_left _ lm19))), List.forall_mem_cons.mpr ⟨(List.mem_cons_of_mem _ (List.mem_append_left _ (List.mem_append_left _ lm20))), List.forall_mem_cons.mpr ⟨(List.mem_cons_of_mem _ (List.mem_append_left _ (List.mem_append_left _ lm21))), List.forall_mem_cons.mpr ⟨(List.mem_cons_of_mem _ (List.mem_append_left _ (List.mem_append_left _ lm22))), List.forall_mem_cons.mpr ⟨(List.mem_cons_of_mem _ (List.mem_append_left _ (List.mem_append_left _ lm23))), List.forall_mem_cons.mpr ⟨(List.mem_cons_of_mem _ (List.mem_append_left _ (List.mem_append_right _ lm0))), List.forall_mem_cons.mpr ⟨(List.mem_cons_of_mem _ (List.mem_append_left _ (List.mem_append_right _ lm1))), List.forall_mem_cons.mpr ⟨(List.mem_cons_of_mem _ (List.mem_append_left _ (List.mem_append_right _ lm2))), List.forall_mem_cons.mpr ⟨(List.mem_cons_of_mem _ (List.mem_append_left _ (List.mem_append_right _ lm3))), List.forall_mem_cons.mpr ⟨(List.mem_cons_of_mem _ (List.mem_append_left _ (List.mem_append_right _ lm4))), List.forall_mem_cons.mpr ⟨(List.mem_cons_of_mem _ (List.mem_append_left _ (List.mem_append_right _ lm5))), (fun _ h => absurd h List.not_mem_nil)⟩⟩⟩⟩⟩⟩⟩⟩⟩⟩⟩⟩⟩⟩⟩⟩⟩⟩⟩⟩⟩⟩⟩⟩, (fun _ h => (List.mem_cons_of_mem _ (List.mem_append_right _ h)))⟩⟩) gw_X12_test)
set_option maxHeartbeats 2000000 in
set_option maxRecDepth 100000 in
theorem m_holds (l : Launch) (D : va_G) (g : Nat → Nat) (ka : Nat → ClassId) (ad : Nat → Nat) (i : Nat → Nat → Int32) (r : Nat → Nat → Nat) (L : Nat → Nat → Int64) (d : Nat → Nat → UInt64) (x : Int32) (y : Int32) (hO : OkI i) (hR : RS r) (sz : Nat) (hx0 : 0 ≤ x.toInt) (hx1 : x.toInt ≤ 8) : Met l yX12_holds wsX12_holds ({ frames := 4, cells := 0, slots := 0, locals := 91 }) (va_Pc [.ref (g 36), .int x, .int y] (sj_B D (hwc g ka i r L d) (hT ka) sz (gx ad (va_A (hwc g ka i r L d) sz)))) (sj_Qi (S := (Nat → Nat → Int32)) D (fun v u => OkI u ∧ (∀ a b, ¬ ((a = 36 ∧ (b = 65 ∨ b = 66)) ∨ a = 418 ∨ a = 419) → u a b = i a b) ∧ ((0 : Int) ≤ v.toInt ∧ v.toInt ≤ 1) ∧ (v.toInt = (if tgHM i x.toInt.toNat y = true then 1 else 0))) (fun u => hwc g ka u r L d) (fun _ => []) (va_A (hwc g ka i r L d) sz)) 0 0 (va_A (hwc g ka i r L d) sz) := by
  refine x_met (Ex := gx ad) (cc := cX12_holds) (maxL := 3) (ret := (some .boolean)) (by decide) rfl (Nat.le_of_ble_eq_true rfl) ?_
  intro p e s m below meth c A ls hx hb hr hml hts hown hlocks hA hS hH hK hE hl
  have hown : s.vm.findClass RX12 = some m.cls := hown
  have in12 : ∀ w ∈ wsX120, w ∈ wsX12_holds := (fun _ h => (List.mem_cons_of_mem _ (List.mem_append_right _ h)))
  have wd0 := hts (.fieldLink RX12 397 "StoryDeskModel" "tests" "[C") (List.mem_cons_of_mem _ (List.mem_append_left _ (List.mem_append_left _ lm0)))
  have wd1 := hts (.fieldLink RX12 394 "StoryDeskModel" "testSize" "[I") (List.mem_cons_of_mem _ (List.mem_append_left _ (List.mem_append_left _ lm1)))
  have hl : lv_has ls 3 [(0, .ref (g 36)), (1, .int x), (2, .int y)] := hl
  have hK : va_K D vwCl (hT ka) s := hK
  have hg_1 := s_rng y
  refine lv_aload_n hx hb dX12_holds_0 rfl (lv_at hl 0 rfl) ?_
  refine lv_aload_n hx hb dX12_holds_1 rfl (lv_at hl 0 rfl) ?_
  refine h_getr (ci := 12) (C := RX12) (F := TX12) (N := 86) hx hb hts in12 hown hK hH (by decide) (rfl : kd 36 = 12) (by decide) rfl 61 (by decide) wd0 (fun _ h9 => h9) (by decide) rfl (t := 416) (hR 36 61 rfl) (by decide) dX12_holds_2 ?_
  refine lv_bipush (v := 40) hx hb dX12_holds_5 (by decide) ?_
  refine lv_iload_n hx hb dX12_holds_7 rfl (lv_at hl 1 rfl) ?_
  refine lv_imul hx hb dX12_holds_8 ?_
  obtain ⟨z_2, ez_2, hz_2⟩ := s_mul (show (40 : Int32).toInt = 40 from rfl) (rfl : x.toInt = _) (by omega) (by omega)
  refine sj_i ez_2 ?_
  refine lv_aload_n hx hb dX12_holds_9 rfl (lv_at hl 0 rfl) ?_
  refine h_getr (ci := 12) (C := RX12) (F := TX12) (N := 86) hx hb hts in12 hown hK hH (by decide) (rfl : kd 36 = 12) (by decide) rfl 62 (by decide) wd1 (fun _ h9 => h9) (by decide) rfl (t := 417) (hR 36 62 rfl) (by decide) dX12_holds_10 ?_
  refine lv_iload_n hx hb dX12_holds_13 rfl (lv_at hl 1 rfl) ?_
  have bx_3 : (0 : Int) ≤ (i 417 (x.toInt).toNat).toInt ∧ (i 417 (x.toInt).toNat).toInt ≤ 40 := hO 417 (x.toInt).toNat
  refine h_iald hx hb hK hH (by decide) (rfl : kd 417 = 13) (s_vin (N := 9) (rfl : x.toInt = _) (rfl : ln 417 = 9) (by omega) (by omega)) dX12_holds_14 ?_
  have ek_4 : x.toNatClampNeg = (x.toInt).toNat := (s_cl (show x.toInt = x.toInt by omega))
  refine sj_i (y := (i 417 (x.toInt).toNat)) (by rw [ek_4]) ?_
  refine lv_iload_n hx hb dX12_holds_15 rfl (lv_at hl 2 rfl) ?_
  refine x_calli (va_runV (As := [.ref (g 416), .int z_2, .int (i 417 (x.toInt).toNat), .int y]) (rest := []) ⟨hx, hb, hml, hown, hts⟩ (m_test_tests l D g ka ad i r L d z_2 (i 417 (x.toInt).toNat) y hO hR s.heap.size (by first | omega | decide) (by first | omega | decide) (by first | omega | decide) (by first | omega | decide) (by first | omega | decide)) (cwV 4 hts gX12_holds_X12_test rfl rfl rfl (by decide +kernel) ⟨(Nat.le_of_ble_eq_true rfl), (Nat.le_of_ble_eq_true rfl)⟩) (x_preV (q := (RX12, TX12, 86)) hH hK (q_obj (by decide) (rfl : kd 36 = 12) (by decide)) rfl gxb (gxw hE hS (x_F hH hS hA))) rfl rfl hl.1 rfl (lv_room (Nat.le_of_ble_eq_true rfl)) dX12_holds_16 ⟨(Nat.le_of_ble_eq_true rfl), (Nat.le_of_ble_eq_true rfl)⟩) hH hS hA rfl rfl (fun r_5 im_7 H locs hw_6 hH hS => ?_)
  have hH : sj_H D A (hwc g ka im_7 r L d) H := hH
  obtain ⟨hO_9, hfr_8, hr_10, hx2_11, hx2_12, hx2_13⟩ := hw_6
  have hr_10 : (-1 : Int) ≤ r_5.toInt ∧ r_5.toInt ≤ 1 := hr_10
  have hT : tgLM i x.toInt.toNat = tgL (i 416) (z_2).toInt.toNat (i 417 (x.toInt).toNat).toInt.toNat := by unfold tgLM; rw [show 40 * x.toInt.toNat = (z_2).toInt.toNat by omega]
  rw [← hT] at hx2_12 hx2_13
  have hv := tgHM_v (v := r_5.toInt) (hx2_12 (by omega)) (hx2_13 (by omega))
  refine lv_iconst (v := 1) hx hb dX12_holds_19 (by decide) ?_
  refine lv_icmp_ne (tgt := 27) hx hb dX12_holds_20 (by decide) (fun c_14 => ?_) (fun c_14 => ?_)
  · skip
    have h_15 := s_ne (rfl : r_5.toInt = _) (show (1 : Int32).toInt = 1 from rfl) c_14
    refine lv_iconst (v := 0) hx hb dX12_holds_27 (by decide) ?_
    exact sj_zret hx hb hr hlocks (by decide +kernel) hS im_7 ⟨hO_9, (fun a b ha => (hfr_8 a b (by omega))), ⟨by decide, by decide⟩, (by rcases hv with ⟨q1, q2⟩ | ⟨q1, q2⟩ <;> rw [q2] <;> first | (exfalso; omega) | (simp; try omega))⟩ hH (sj_Knil hK) (Nat.le_of_ble_eq_true rfl) (Nat.le_of_ble_eq_true rfl) dX12_holds_28
  · skip
    have h_16 := s_eq (rfl : r_5.toInt = _) (show (1 : Int32).toInt = 1 from rfl) c_14
    refine lv_iconst (v := 1) hx hb dX12_holds_23 (by decide) ?_
    refine lv_goto (tgt := 28) hx hb dX12_holds_24 (by decide) ?_
    exact sj_zret hx hb hr hlocks (by decide +kernel) hS im_7 ⟨hO_9, (fun a b ha => (hfr_8 a b (by omega))), ⟨by decide, by decide⟩, (by rcases hv with ⟨q1, q2⟩ | ⟨q1, q2⟩ <;> rw [q2] <;> first | (exfalso; omega) | (simp; try omega))⟩ hH (sj_Knil hK) (Nat.le_of_ble_eq_true rfl) (Nat.le_of_ble_eq_true rfl) dX12_holds_28
