/-- something is left: a case that waits, or one that a worker is at -/
def lvB (i : Nat → Nat → Int32) : Nat → Bool
  | 0 => decide ((i 36 79).toInt < (i 36 33).toInt)
  | n + 1 => lvB i n || decide (0 ≤ (i 427 n).toInt)
theorem lvB_0 {i : Nat → Nat → Int32} {t : Int} (h : (t = 1 ∧ (i 36 79).toInt < (i 36 33).toInt) ∨ (t = 0 ∧ (i 36 33).toInt ≤ (i 36 79).toInt)) : t = b01 (lvB i 0) := by
  unfold lvB b01
  rcases h with ⟨h1, h2⟩ | ⟨h1, h2⟩
  · rw [decide_eq_true h2]; exact h1
  · rw [decide_eq_false (by omega)]; exact h1
theorem lvB_s {i : Nat → Nat → Int32} {t f u g : Int} (h : t = b01 (lvB i f.toNat)) (h0 : 0 ≤ f) (hg : g = f + 1) (hu : (u = 1 ∧ (t ≠ 0 ∨ 0 ≤ (i 427 f.toNat).toInt)) ∨ (u = 0 ∧ t = 0 ∧ (i 427 f.toNat).toInt < 0)) : u = b01 (lvB i g.toNat) := by
  rw [show g.toNat = f.toNat + 1 by omega]
  unfold lvB
  unfold b01 at h ⊢
  cases hb : lvB i f.toNat with
  | true =>
    rw [hb, if_pos rfl] at h
    have : u = 1 := by omega
    rw [this]; simp
  | false =>
    rw [hb, if_neg (by decide)] at h
    rcases hu with ⟨h1, h2⟩ | ⟨h1, _, h2⟩
    · rw [decide_eq_true (show 0 ≤ (i 427 f.toNat).toInt by omega)]; exact h1
    · rw [decide_eq_false (by omega)]; exact h1
theorem b01_c {b : Bool} {v : Int} (h : v = b01 b) : (v = 1 ∧ b = true) ∨ (v = 0 ∧ b = false) := b01_or h
theorem dX12_wanted_0 : decode cX12_wanted 0 = .ok (.iconst 0, 1) := by decide +kernel
theorem dX12_wanted_1 : decode cX12_wanted 1 = .ok (.istore_n 1, 1) := by decide +kernel
theorem dX12_wanted_2 : decode cX12_wanted 2 = .ok (.iconst 0, 1) := by decide +kernel
theorem dX12_wanted_3 : decode cX12_wanted 3 = .ok (.istore_n 2, 1) := by decide +kernel
theorem dX12_wanted_4 : decode cX12_wanted 4 = .ok (.iload_n 2, 1) := by decide +kernel
theorem dX12_wanted_5 : decode cX12_wanted 5 = .ok (.aload_n 0, 1) := by decide +kernel
theorem dX12_wanted_6 : decode cX12_wanted 6 = .ok (.getfield 165, 3) := by decide +kernel
theorem dX12_wanted_9 : decode cX12_wanted 9 = .ok (.if_icmp .ge 32, 3) := by decide +kernel
theorem dX12_wanted_41 : decode cX12_wanted 41 = .ok (.iload_n 1, 1) := by decide +kernel
theorem dX12_wanted_42 : decode cX12_wanted 42 = .ok (.ireturn, 1) := by decide +kernel
theorem dX12_wanted_12 : decode cX12_wanted 12 = .ok (.iload_n 1, 1) := by decide +kernel
theorem dX12_wanted_13 : decode cX12_wanted 13 = .ok (.aload_n 0, 1) := by decide +kernel
theorem dX12_wanted_14 : decode cX12_wanted 14 = .ok (.bipush 8, 2) := by decide +kernel
theorem dX12_wanted_16 : decode cX12_wanted 16 = .ok (.aload_n 0, 1) := by decide +kernel
theorem dX12_wanted_17 : decode cX12_wanted 17 = .ok (.getfield 204, 3) := by decide +kernel
theorem dX12_wanted_20 : decode cX12_wanted 20 = .ok (.iload_n 2, 1) := by decide +kernel
theorem dX12_wanted_21 : decode cX12_wanted 21 = .ok (.iaload, 1) := by decide +kernel
theorem dX12_wanted_22 : decode cX12_wanted 22 = .ok (.invokevirtual 418, 3) := by decide +kernel
theorem dX12_wanted_25 : decode cX12_wanted 25 = .ok (.ifCond .eq 7, 3) := by decide +kernel
theorem dX12_wanted_32 : decode cX12_wanted 32 = .ok (.iconst 0, 1) := by decide +kernel
theorem dX12_wanted_33 : decode cX12_wanted 33 = .ok (.iadd, 1) := by decide +kernel
theorem dX12_wanted_34 : decode cX12_wanted 34 = .ok (.istore_n 1, 1) := by decide +kernel
theorem dX12_wanted_35 : decode cX12_wanted 35 = .ok (.iinc 2 1, 3) := by decide +kernel
theorem dX12_wanted_38 : decode cX12_wanted 38 = .ok (.goto (-34), 3) := by decide +kernel
theorem dX12_wanted_28 : decode cX12_wanted 28 = .ok (.iconst 1, 1) := by decide +kernel
theorem dX12_wanted_29 : decode cX12_wanted 29 = .ok (.goto 4, 3) := by decide +kernel
theorem dX12_settle_0 : decode cX12_settle 0 = .ok (.aload_n 0, 1) := by decide +kernel
theorem dX12_settle_1 : decode cX12_settle 1 = .ok (.getfield 504, 3) := by decide +kernel
theorem dX12_settle_4 : decode cX12_settle 4 = .ok (.aload_n 0, 1) := by decide +kernel
theorem dX12_settle_5 : decode cX12_settle 5 = .ok (.getfield 165, 3) := by decide +kernel
theorem dX12_settle_8 : decode cX12_settle 8 = .ok (.if_icmp .ge 7, 3) := by decide +kernel
theorem dX12_settle_15 : decode cX12_settle 15 = .ok (.iconst 0, 1) := by decide +kernel
theorem dX12_settle_16 : decode cX12_settle 16 = .ok (.istore_n 1, 1) := by decide +kernel
theorem dX12_settle_17 : decode cX12_settle 17 = .ok (.iconst 0, 1) := by decide +kernel
theorem dX12_settle_18 : decode cX12_settle 18 = .ok (.istore_n 2, 1) := by decide +kernel
theorem dX12_settle_19 : decode cX12_settle 19 = .ok (.iload_n 2, 1) := by decide +kernel
theorem dX12_settle_20 : decode cX12_settle 20 = .ok (.aload_n 0, 1) := by decide +kernel
theorem dX12_settle_21 : decode cX12_settle 21 = .ok (.getfield 507, 3) := by decide +kernel
theorem dX12_settle_24 : decode cX12_settle 24 = .ok (.if_icmp .ge 28, 3) := by decide +kernel
theorem dX12_settle_52 : decode cX12_settle 52 = .ok (.iload_n 1, 1) := by decide +kernel
theorem dX12_settle_53 : decode cX12_settle 53 = .ok (.ifCond .eq 4, 3) := by decide +kernel
theorem dX12_settle_57 : decode cX12_settle 57 = .ok (.aload_n 0, 1) := by decide +kernel
theorem dX12_settle_58 : decode cX12_settle 58 = .ok (.iconst 0, 1) := by decide +kernel
theorem dX12_settle_59 : decode cX12_settle 59 = .ok (.putfield 168, 3) := by decide +kernel
theorem dX12_settle_62 : decode cX12_settle 62 = .ok (.aload_n 0, 1) := by decide +kernel
theorem dX12_settle_63 : decode cX12_settle 63 = .ok (.iconst 5, 1) := by decide +kernel
theorem dX12_settle_64 : decode cX12_settle 64 = .ok (.aload_n 0, 1) := by decide +kernel
theorem dX12_settle_65 : decode cX12_settle 65 = .ok (.getfield 510, 3) := by decide +kernel
theorem dX12_settle_68 : decode cX12_settle 68 = .ok (.aload_n 0, 1) := by decide +kernel
theorem dX12_settle_69 : decode cX12_settle 69 = .ok (.getfield 460, 3) := by decide +kernel
theorem dX12_settle_72 : decode cX12_settle 72 = .ok (.iconst 0, 1) := by decide +kernel
theorem dX12_settle_73 : decode cX12_settle 73 = .ok (.invokevirtual 513, 3) := by decide +kernel
theorem dX12_settle_76 : decode cX12_settle 76 = .ok (.return_, 1) := by decide +kernel
theorem dX12_settle_56 : decode cX12_settle 56 = .ok (.return_, 1) := by decide +kernel
theorem dX12_settle_27 : decode cX12_settle 27 = .ok (.iload_n 1, 1) := by decide +kernel
theorem dX12_settle_28 : decode cX12_settle 28 = .ok (.ifCond .ne 12, 3) := by decide +kernel
theorem dX12_settle_40 : decode cX12_settle 40 = .ok (.iconst 1, 1) := by decide +kernel
theorem dX12_settle_41 : decode cX12_settle 41 = .ok (.goto 4, 3) := by decide +kernel
theorem dX12_settle_45 : decode cX12_settle 45 = .ok (.istore_n 1, 1) := by decide +kernel
theorem dX12_settle_46 : decode cX12_settle 46 = .ok (.iinc 2 1, 3) := by decide +kernel
theorem dX12_settle_49 : decode cX12_settle 49 = .ok (.goto (-30), 3) := by decide +kernel
theorem dX12_settle_31 : decode cX12_settle 31 = .ok (.aload_n 0, 1) := by decide +kernel
theorem dX12_settle_32 : decode cX12_settle 32 = .ok (.getfield 492, 3) := by decide +kernel
theorem dX12_settle_35 : decode cX12_settle 35 = .ok (.iload_n 2, 1) := by decide +kernel
theorem dX12_settle_36 : decode cX12_settle 36 = .ok (.iaload, 1) := by decide +kernel
theorem dX12_settle_37 : decode cX12_settle 37 = .ok (.ifCond .lt 7, 3) := by decide +kernel
theorem dX12_settle_44 : decode cX12_settle 44 = .ok (.iconst 0, 1) := by decide +kernel
theorem dX12_settle_11 : decode cX12_settle 11 = .ok (.iconst 1, 1) := by decide +kernel
theorem dX12_settle_12 : decode cX12_settle 12 = .ok (.goto 4, 3) := by decide +kernel
theorem gX12_wanted_X12_holds : GoodIn wsX12_wanted (wsV RX12 418 RX12 yX12_holds wsX12_holds) := goodIn_app (goodIn_sub (List.forall_mem_cons.mpr ⟨(List.mem_cons_of_mem _ (List.mem_append_left _ (List.mem_append_left _ lm2))), List.forall_mem_cons.mpr ⟨(List.mem_cons_of_mem _ (List.mem_append_left _ (List.mem_append_left _ lm3))), List.forall_mem_cons.mpr ⟨(List.mem_cons_of_mem _ (List.mem_append_left _ (List.mem_append_left _ lm4))), List.forall_mem_cons.mpr ⟨(List.mem_cons_of_mem _ (List.mem_append_left _ (List.mem_append_left _ lm5))), (fun _ h => absurd h List.not_mem_nil)⟩⟩⟩⟩) (by decide +kernel)) (goodIn_sub (by unfold wsX12_holds; exact List.forall_mem_cons.mpr ⟨(List.mem_cons_of_mem _ (List.mem_append_left _ (List.mem_append_left _ lm6))), List.forall_mem_append.mpr ⟨List.forall_mem_append.mpr ⟨List.forall_mem_cons.mpr ⟨(List.mem_cons_of_mem _ (List.mem_append_left _ (List.mem_append_left _ lm7))), List.forall_mem_cons.mpr ⟨(List.mem_cons_of_mem _ (List.mem_append_left _ (List.mem_append_left _ lm8))), List.forall_mem_cons.mpr ⟨(List.mem_cons_of_mem _ (List.mem_append_left _ (List.mem_append_left _ lm9))), List.forall_mem_cons.mpr ⟨(List.mem_cons_of_mem _ (List.mem_append_left _ (List.mem_append_left _ lm10))), List.forall_mem_cons.mpr ⟨(List.mem_cons_of_mem _ (List.mem_append_left _ (List.mem_append_left _ lm11))), List.forall_mem_cons.mpr ⟨(List.mem_cons_of_mem _ (List.mem_append_left _ (List.mem_append_left _ lm5))), List.forall_mem_cons.mpr ⟨(List.mem_cons_of_mem _ (List.mem_append_left _ (List.mem_append_left _ lm12))), List.forall_mem_cons.mpr ⟨(List.mem_cons_of_mem _ (List.mem_append_left _ (List.mem_append_left _ lm13))), List.forall_mem_cons.mpr ⟨(List.mem_cons_of_mem _ (List.mem_append_left _ (List.mem_append_left _ lm14))), List.forall_mem_cons.mpr ⟨(List.mem_cons_of_mem _ (List.mem_append_left _ (List.mem_append_left _ lm15))), List.forall_mem_cons.mpr ⟨(List.mem_cons_of_mem _ (List.mem_append_left _ (List.mem_append_left _ lm16))), List.forall_mem_cons.mpr ⟨(List.mem_cons_of_mem _ (List.mem_append_left _ (List.mem_append_left _ lm17))), List.forall_mem_cons.mpr ⟨(List.mem_cons_of_mem _ (List.mem_append_left _ (List.mem_append_left _ lm18))), List.forall_mem_cons.mpr ⟨(List.mem_cons_of_mem _ (List.mem_append_left _ (List.mem_append_left _ lm19))), List.forall_mem_cons.mpr ⟨(List.mem_cons_of_mem _ (List.mem_append_left _ (List.mem_append_left _ lm20))), List.forall_mem_cons.mpr ⟨(List.mem_cons_of_mem _ (List.mem_append_left _ (List.mem_append_left _ lm21))), List.forall_mem_cons.mpr ⟨(List.mem_cons_of_mem _ (List.mem_append_left _ (List.mem_append_left _ lm22))), List.forall_mem_cons.mpr ⟨(List.mem_cons_of_mem _ (List.mem_append_left _ (List.mem_append_left _ lm23))), List.forall_mem_cons.mpr ⟨(List.mem_cons_of_mem _ (List.mem_append_left _ (List.mem_append_right _ lm0))), List.forall_mem_cons.mpr ⟨(List.mem_cons_of_mem _ (List.mem_append_left _ (List.mem_append_right _ lm1))), List.forall_mem_cons.mpr ⟨(List.mem_cons_of_mem _ (List.mem_append_left _ (List.mem_append_right _ lm2))), List.forall_mem_cons.mpr ⟨(List.mem_cons_of_mem _ (List.mem_append_left _ (List.mem_append_right _ lm3))), List.forall_mem_cons.mpr ⟨(List.mem_cons_of_mem _ (List.mem_append_left _ (List.mem_append_right _ lm4))), List.forall_mem_cons.mpr ⟨(List.mem_cons_of_mem _ (List.mem_append_left _ (List.mem_append_right _ lm5))), (fun _ h => absurd h List.not_mem_nil)⟩⟩⟩⟩⟩⟩⟩⟩⟩⟩⟩⟩⟩⟩⟩⟩⟩⟩⟩⟩⟩⟩⟩⟩, List.forall_mem_cons.mpr ⟨(List.mem_cons_of_mem _ (List.mem_append_left _ (List.mem_append_right _ lm6))), List.forall_mem_cons.mpr ⟨(List.mem_cons_of_mem _ (List.mem_append_left _ (List.mem_append_right _ lm7))), List.forall_mem_cons.mpr ⟨(List.mem_cons_of_mem _ (List.mem_append_left _ (List.mem_append_right _ lm8))), List.forall_mem_cons.mpr ⟨(List.mem_cons_of_mem _ (List.mem_append_left _ (List.mem_append_right _ lm9))), List.forall_mem_cons.mpr ⟨(List.mem_cons_of_mem _ (List.mem_append_left _ (List.mem_append_right _ lm10))), List.forall_mem_cons.mpr ⟨(List.mem_cons_of_mem _ (List.mem_append_left _ (List.mem_append_right _ lm11))), (fun _ h => absurd h List.not_mem_nil)⟩⟩⟩⟩⟩⟩⟩, (fun _ h => (List.mem_cons_of_mem _ (List.mem_append_right _ h)))⟩⟩) gw_X12_holds)
theorem gw_X12_tell : wsX12_tell.all goodWord = true := by decide +kernel
theorem gX12_settle_X12_tell : GoodIn wsX12_settle (wsV RX12 513 RX12 yX12_tell wsX12_tell) := goodIn_app (goodIn_sub (List.forall_mem_cons.mpr ⟨(List.mem_cons_of_mem _ (List.mem_append_left _ lm7)), List.forall_mem_cons.mpr ⟨(List.mem_cons_of_mem _ (List.mem_append_left _ lm8)), List.forall_mem_cons.mpr ⟨(List.mem_cons_of_mem _ (List.mem_append_left _ lm9)), List.forall_mem_cons.mpr ⟨(List.mem_cons_of_mem _ (List.mem_append_left _ lm10)), (fun _ h => absurd h List.not_mem_nil)⟩⟩⟩⟩) (by decide +kernel)) (goodIn_sub (by unfold wsX12_tell; exact List.forall_mem_cons.mpr ⟨(List.mem_cons_of_mem _ (List.mem_append_left _ lm11)), List.forall_mem_append.mpr ⟨List.forall_mem_cons.mpr ⟨(List.mem_cons_of_mem _ (List.mem_append_left _ lm12)), List.forall_mem_cons.mpr ⟨(List.mem_cons_of_mem _ (List.mem_append_left _ lm13)), (fun _ h => absurd h List.not_mem_nil)⟩⟩, (fun _ h => (List.mem_cons_of_mem _ (List.mem_append_right _ h)))⟩⟩) gw_X12_tell)
set_option maxHeartbeats 2000000 in
set_option maxRecDepth 100000 in
theorem m_wanted (l : Launch) (D : va_G) (g : Nat → Nat) (ka : Nat → ClassId) (ad : Nat → Nat) (i : Nat → Nat → Int32) (r : Nat → Nat → Nat) (L : Nat → Nat → Int64) (d : Nat → Nat → UInt64)  (hO : OkI i) (hR : RS r) (sz : Nat)  : Met l yX12_wanted wsX12_wanted ({ frames := 5, cells := 0, slots := 0, locals := 113 }) (va_Pc [.ref (g 36)] (sj_B D (hwc g ka i r L d) (hT ka) sz (gx ad (va_A (hwc g ka i r L d) sz)))) (sj_Qi (S := (Nat → Nat → Int32)) D (fun v u => OkI u ∧ (∀ a b, ¬ ((a = 36 ∧ (b = 65 ∨ b = 66)) ∨ a = 418 ∨ a = 419) → u a b = i a b) ∧ ((0 : Int) ≤ v.toInt ∧ v.toInt ≤ 24)) (fun u => hwc g ka u r L d) (fun _ => []) (va_A (hwc g ka i r L d) sz)) 0 0 (va_A (hwc g ka i r L d) sz) := by
  refine x_met (Ex := gx ad) (cc := cX12_wanted) (maxL := 3) (ret := (some .int)) (by decide) rfl (Nat.le_of_ble_eq_true rfl) ?_
  intro p e s m below meth c A ls hx hb hr hml hts hown hlocks hA hS hH hK hE hl
  have hown : s.vm.findClass RX12 = some m.cls := hown
  have in12 : ∀ w ∈ wsX120, w ∈ wsX12_wanted := (fun _ h => (List.mem_cons_of_mem _ (List.mem_append_right _ h)))
  have wd0 := hts (.fieldLink RX12 165 "StoryDeskModel" "cases" "I") (List.mem_cons_of_mem _ (List.mem_append_left _ (List.mem_append_left _ lm0)))
  have wd1 := hts (.fieldLink RX12 204 "StoryDeskModel" "caseTags" "[I") (List.mem_cons_of_mem _ (List.mem_append_left _ (List.mem_append_left _ lm1)))
  have hl : lv_has ls 3 [(0, .ref (g 36))] := hl
  have hK : va_K D vwCl (hT ka) s := hK
  have hb33 : (0 : Int) ≤ (i 36 33).toInt ∧ (i 36 33).toInt ≤ 24 := hO 36 33
  refine lv_iconst (v := 0) hx hb dX12_wanted_0 (by decide) ?_
  refine lv_istore_n (lv' := [(1, .int 0), (0, .ref (g 36))]) hx hb dX12_wanted_1 rfl hl (by decide) rfl (fun ls hl => ?_)
  refine lv_iconst (v := 0) hx hb dX12_wanted_2 (by decide) ?_
  refine lv_istore_n (lv' := [(2, .int 0), (1, .int 0), (0, .ref (g 36))]) hx hb dX12_wanted_3 rfl hl (by decide) rfl (fun ls hl => ?_)
  -- loop at 4
  have lp_1 : ∀ (fuel_lp_1 : Nat) (t : Int32) (f : Int32) (j1 : Nat → Nat → Int32) (H : Heap) (locs : List Loc) (ls : Array Slot), (24 - f.toInt).toNat < fuel_lp_1 → (0 : Int) ≤ t.toInt ∧ t.toInt ≤ 24 → (0 : Int) ≤ f.toInt ∧ f.toInt ≤ 24 → t.toInt ≤ f.toInt ∧ f.toInt ≤ (i 36 33).toInt → OkI j1 → (∀ a b, ¬ ((a = 36 ∧ (b = 65 ∨ b = 66)) ∨ a = 418 ∨ a = 419) → j1 a b = i a b) → lv_has ls 3 [(2, .int f), (1, .int t), (0, .ref (g 36))] → sj_H D A (hwc g ka j1 r L d) H → va_S A s.heap H locs → W p l e (headSpec wsX12_wanted ({ frames := 5, cells := 0, slots := 0, locals := 113 })).room s m ([.ref (g 36)] : List Value).toArray below meth c H locs 0 0 (MQ below (sj_Qi (S := (Nat → Nat → Int32)) D (fun v u => OkI u ∧ (∀ a b, ¬ ((a = 36 ∧ (b = 65 ∨ b = 66)) ∨ a = 418 ∨ a = 419) → u a b = i a b) ∧ ((0 : Int) ≤ v.toInt ∧ v.toInt ≤ 24)) (fun u => hwc g ka u r L d) (fun _ => []) A) ([.ref (g 36)] : List Value).toArray s 0 0 A) (F0 m 4 ls []) := by
    intro fuel_lp_1
    induction fuel_lp_1 with
    | zero => intros; omega
    | succ fuel_lp_1 ih_lp_1 =>
      intro t f j1 H locs ls hm hr_t hr_f hi_lp_1_0 hO_j1 hfr_j1 hl hH hS
      refine lv_iload_n hx hb dX12_wanted_4 rfl (lv_at hl 0 rfl) ?_
      refine lv_aload_n hx hb dX12_wanted_5 rfl (lv_at hl 2 rfl) ?_
      have bx_2 : (0 : Int) ≤ (i 36 33).toInt ∧ (i 36 33).toInt ≤ 24 := hO 36 33
      refine h_geti (ci := 12) (C := RX12) (F := TX12) (N := 86) hx hb hts in12 hown hK hH (by decide) (rfl : kd 36 = 12) (by decide) rfl 33 (by decide) wd0 (fun _ h9 => h9) (by decide) rfl dX12_wanted_6 ?_
      refine sj_i (y := (i 36 33)) (hfr_j1 36 33 (by omega)) ?_
      refine lv_icmp_ge (tgt := 41) hx hb dX12_wanted_9 (by decide) (fun c_3 => ?_) (fun c_3 => ?_)
      · skip
        have h_4 := s_le (rfl : (i 36 33).toInt = _) (rfl : f.toInt = _) c_3
        refine lv_iload_n hx hb dX12_wanted_41 rfl (lv_at hl 1 rfl) ?_
        exact sj_zret hx hb hr hlocks rfl hS j1 ⟨hO_j1, (fun a b ha => (hfr_j1 a b (by omega))), ⟨by omega, by omega⟩⟩ hH (sj_Knil hK) (Nat.le_of_ble_eq_true rfl) (Nat.le_of_ble_eq_true rfl) dX12_wanted_42
      · skip
        have h_5 := s_nle (rfl : (i 36 33).toInt = _) (rfl : f.toInt = _) c_3
        refine lv_iload_n hx hb dX12_wanted_12 rfl (lv_at hl 1 rfl) ?_
        refine lv_aload_n hx hb dX12_wanted_13 rfl (lv_at hl 2 rfl) ?_
        refine lv_bipush (v := 8) hx hb dX12_wanted_14 (by decide) ?_
        refine lv_aload_n hx hb dX12_wanted_16 rfl (lv_at hl 2 rfl) ?_
        refine h_getr (ci := 12) (C := RX12) (F := TX12) (N := 86) hx hb hts in12 hown hK hH (by decide) (rfl : kd 36 = 12) (by decide) rfl 37 (by decide) wd1 (fun _ h9 => h9) (by decide) rfl (t := 400) (hR 36 37 rfl) (by decide) dX12_wanted_17 ?_
        refine lv_iload_n hx hb dX12_wanted_20 rfl (lv_at hl 0 rfl) ?_
        have bx_6 : (0 : Int) ≤ (i 400 (f.toInt).toNat).toInt ∧ (i 400 (f.toInt).toNat).toInt ≤ 65535 := hO 400 (f.toInt).toNat
        refine h_iald hx hb hK hH (by decide) (rfl : kd 400 = 13) (s_vin (N := 24) (rfl : f.toInt = _) (rfl : ln 400 = 24) (by omega) (by omega)) dX12_wanted_21 ?_
        have ek_7 : f.toNatClampNeg = (f.toInt).toNat := (s_cl (show f.toInt = f.toInt by omega))
        refine sj_i (y := (i 400 (f.toInt).toNat)) (by rw [ek_7]; exact (hfr_j1 400 (f.toInt).toNat (by omega))) ?_
        have hl_8 : (8 : Int32).toInt = 8 := rfl
        refine x_calli (va_runV (As := [.int 8, .int (i 400 (f.toInt).toNat)]) (rest := [.int t]) ⟨hx, hb, hml, hown, hts⟩ (m_holds l D g ka ad j1 r L d 8 (i 400 (f.toInt).toNat) hO_j1 hR H.size (by first | omega | decide) (by first | omega | decide)) (cwV 2 hts gX12_wanted_X12_holds rfl rfl rfl (by decide +kernel) ⟨(Nat.le_of_ble_eq_true rfl), (Nat.le_of_ble_eq_true rfl)⟩) (x_preV (q := (RX12, TX12, 86)) hH hK (q_obj (by decide) (rfl : kd 36 = 12) (by decide)) rfl gxb (gxw hE hS (x_F hH hS hA))) rfl rfl hl.1 rfl (lv_room (Nat.le_of_ble_eq_true rfl)) dX12_wanted_22 ⟨(Nat.le_of_ble_eq_true rfl), (Nat.le_of_ble_eq_true rfl)⟩) hH hS hA rfl rfl (fun r_9 im_11 H locs hw_10 hH hS => ?_)
        have hH : sj_H D A (hwc g ka im_11 r L d) H := hH
        obtain ⟨hO_13, hfr_12, hr_14, hx2_15⟩ := hw_10
        have hr_14 : (0 : Int) ≤ r_9.toInt ∧ r_9.toInt ≤ 1 := hr_14
        refine lv_if_eq (tgt := 32) hx hb dX12_wanted_25 (by decide) (fun c_16 => ?_) (fun c_16 => ?_)
        · skip
          have h_17 := s_eq (rfl : r_9.toInt = _) (show (0 : Int32).toInt = 0 from rfl) c_16
          refine lv_iconst (v := 0) hx hb dX12_wanted_32 (by decide) ?_
          refine lv_iadd hx hb dX12_wanted_33 ?_
          obtain ⟨z_18, ez_18, hz_18⟩ := s_add (rfl : t.toInt = _) (show (0 : Int32).toInt = 0 from rfl) (by omega) (by omega)
          refine sj_i ez_18 ?_
          refine lv_istore_n (lv' := [(1, .int z_18), (2, .int f), (0, .ref (g 36))]) hx hb dX12_wanted_34 rfl hl (by decide) rfl (fun ls hl => ?_)
          obtain ⟨z_19, ez_19, hz_19⟩ := s_add (rfl : f.toInt = _) (show (1 : Int32).toInt = 1 from rfl) (by omega) (by omega)
          refine lv_iinc (v := z_19) (lv' := [(2, .int z_19), (1, .int z_18), (0, .ref (g 36))]) hx hb dX12_wanted_35 hl (k := 1) rfl ez_19 (by decide) rfl (fun ls hl => ?_)
          refine lv_goto (tgt := 4) hx hb dX12_wanted_38 (by decide) ?_
          exact ih_lp_1 z_18 z_19 _ _ _ ls (by omega) (by omega) (by omega) (by omega) hO_13 (fun a b ha => ((hfr_12 a b (by omega)).trans (hfr_j1 a b (by omega)))) (lv_sub hl [0, 1, 2] rfl) hH hS
        · skip
          have h_20 := s_ne (rfl : r_9.toInt = _) (show (0 : Int32).toInt = 0 from rfl) c_16
          refine lv_iconst (v := 1) hx hb dX12_wanted_28 (by decide) ?_
          refine lv_goto (tgt := 33) hx hb dX12_wanted_29 (by decide) ?_
          refine lv_iadd hx hb dX12_wanted_33 ?_
          obtain ⟨z_21, ez_21, hz_21⟩ := s_add (rfl : t.toInt = _) (show (1 : Int32).toInt = 1 from rfl) (by omega) (by omega)
          refine sj_i ez_21 ?_
          refine lv_istore_n (lv' := [(1, .int z_21), (2, .int f), (0, .ref (g 36))]) hx hb dX12_wanted_34 rfl hl (by decide) rfl (fun ls hl => ?_)
          obtain ⟨z_22, ez_22, hz_22⟩ := s_add (rfl : f.toInt = _) (show (1 : Int32).toInt = 1 from rfl) (by omega) (by omega)
          refine lv_iinc (v := z_22) (lv' := [(2, .int z_22), (1, .int z_21), (0, .ref (g 36))]) hx hb dX12_wanted_35 hl (k := 1) rfl ez_22 (by decide) rfl (fun ls hl => ?_)
          refine lv_goto (tgt := 4) hx hb dX12_wanted_38 (by decide) ?_
          exact ih_lp_1 z_21 z_22 _ _ _ ls (by omega) (by omega) (by omega) (by omega) hO_13 (fun a b ha => ((hfr_12 a b (by omega)).trans (hfr_j1 a b (by omega)))) (lv_sub hl [0, 1, 2] rfl) hH hS
  have hl_23 : (0 : Int32).toInt = 0 := rfl
  have hl_24 : (0 : Int32).toInt = 0 := rfl
  exact lp_1 _ 0 0 _ _ _ ls (Nat.lt_succ_self _) (by omega) (by omega) (by omega) hO (fun a b ha => rfl) (lv_sub hl [0, 1, 2] rfl) hH hS
set_option maxHeartbeats 2000000 in
set_option maxRecDepth 100000 in
theorem m_settle (l : Launch) (D : va_G) (g : Nat → Nat) (ka : Nat → ClassId) (ad : Nat → Nat) (i : Nat → Nat → Int32) (r : Nat → Nat → Nat) (L : Nat → Nat → Int64) (d : Nat → Nat → UInt64)  (hO : OkI i) (hR : RS r) (sz : Nat) (hev : (i 36 81).toInt ≤ 2000000000) : Met l yX12_settle wsX12_settle ({ frames := 1, cells := 0, slots := 0, locals := 25 }) (va_Pc [.ref (g 36)] (sj_B D (hwc g ka i r L d) (hT ka) sz (gx ad (va_A (hwc g ka i r L d) sz)))) (sj_Qv (S := (Nat → Nat → Int32)) D (fun u => OkI u ∧ (∀ a b, ¬ ((a = 36 ∧ (b = 76 ∨ b = 81)) ∨ a = 426) → u a b = i a b) ∧ ((u 36 76).toInt = (if lvB i (i 36 77).toInt.toNat = true then (i 36 76).toInt else 0))) (fun u => hwc g ka u r L d) (fun _ => []) (va_A (hwc g ka i r L d) sz)) 0 0 (va_A (hwc g ka i r L d) sz) := by
  refine x_met (Ex := gx ad) (cc := cX12_settle) (maxL := 3) (ret := none) (by decide) rfl (Nat.le_of_ble_eq_true rfl) ?_
  intro p e s m below meth c A ls hx hb hr hml hts hown hlocks hA hS hH hK hE hl
  have hown : s.vm.findClass RX12 = some m.cls := hown
  have in12 : ∀ w ∈ wsX120, w ∈ wsX12_settle := (fun _ h => (List.mem_cons_of_mem _ (List.mem_append_right _ h)))
  have wd0 := hts (.fieldLink RX12 504 "StoryDeskModel" "upcoming" "I") (List.mem_cons_of_mem _ (List.mem_append_left _ lm0))
  have wd1 := hts (.fieldLink RX12 165 "StoryDeskModel" "cases" "I") (List.mem_cons_of_mem _ (List.mem_append_left _ lm1))
  have wd2 := hts (.fieldLink RX12 507 "StoryDeskModel" "workers" "I") (List.mem_cons_of_mem _ (List.mem_append_left _ lm2))
  have wd3 := hts (.fieldLink RX12 168 "StoryDeskModel" "running" "Z") (List.mem_cons_of_mem _ (List.mem_append_left _ lm4))
  have wd4 := hts (.fieldLink RX12 510 "StoryDeskModel" "worst" "I") (List.mem_cons_of_mem _ (List.mem_append_left _ lm5))
  have wd5 := hts (.fieldLink RX12 460 "StoryDeskModel" "units" "I") (List.mem_cons_of_mem _ (List.mem_append_left _ lm6))
  have wd6 := hts (.fieldLink RX12 492 "StoryDeskModel" "job" "[I") (List.mem_cons_of_mem _ (List.mem_append_left _ lm3))
  have hl : lv_has ls 3 [(0, .ref (g 36))] := hl
  have hK : va_K D vwCl (hT ka) s := hK
  have hb77 : (0 : Int) ≤ (i 36 77).toInt ∧ (i 36 77).toInt ≤ 3 := hO 36 77
  refine lv_aload_n hx hb dX12_settle_0 rfl (lv_at hl 0 rfl) ?_
  have bx_1 : (0 : Int) ≤ (i 36 79).toInt ∧ (i 36 79).toInt ≤ 24 := hO 36 79
  refine h_geti (ci := 12) (C := RX12) (F := TX12) (N := 86) hx hb hts in12 hown hK hH (by decide) (rfl : kd 36 = 12) (by decide) rfl 79 (by decide) wd0 (fun _ h9 => h9) (by decide) rfl dX12_settle_1 ?_
  refine lv_aload_n hx hb dX12_settle_4 rfl (lv_at hl 0 rfl) ?_
  have bx_2 : (0 : Int) ≤ (i 36 33).toInt ∧ (i 36 33).toInt ≤ 24 := hO 36 33
  refine h_geti (ci := 12) (C := RX12) (F := TX12) (N := 86) hx hb hts in12 hown hK hH (by decide) (rfl : kd 36 = 12) (by decide) rfl 33 (by decide) wd1 (fun _ h9 => h9) (by decide) rfl dX12_settle_5 ?_
  refine lv_icmp_ge (tgt := 15) hx hb dX12_settle_8 (by decide) (fun c_3 => ?_) (fun c_3 => ?_)
  · skip
    have h_4 := s_le (rfl : (i 36 33).toInt = _) (rfl : (i 36 79).toInt = _) c_3
    refine lv_iconst (v := 0) hx hb dX12_settle_15 (by decide) ?_
    refine lv_istore_n (lv' := [(1, .int 0), (0, .ref (g 36))]) hx hb dX12_settle_16 rfl hl (by decide) rfl (fun ls hl => ?_)
    refine lv_iconst (v := 0) hx hb dX12_settle_17 (by decide) ?_
    refine lv_istore_n (lv' := [(2, .int 0), (1, .int 0), (0, .ref (g 36))]) hx hb dX12_settle_18 rfl hl (by decide) rfl (fun ls hl => ?_)
    -- loop at 19
    have lp_5 : ∀ (fuel_lp_5 : Nat) (t : Int32) (f : Int32) (H : Heap) (locs : List Loc) (ls : Array Slot), (3 - f.toInt).toNat < fuel_lp_5 → (0 : Int) ≤ t.toInt ∧ t.toInt ≤ 1 → (0 : Int) ≤ f.toInt ∧ f.toInt ≤ 3 → t.toInt = b01 (lvB i f.toInt.toNat) → f.toInt ≤ (i 36 77).toInt → lv_has ls 3 [(2, .int f), (1, .int t), (0, .ref (g 36))] → sj_H D A (hwc g ka i r L d) H → va_S A s.heap H locs → W p l e (headSpec wsX12_settle ({ frames := 1, cells := 0, slots := 0, locals := 25 })).room s m ([.ref (g 36)] : List Value).toArray below meth c H locs 0 0 (MQ below (sj_Qv (S := (Nat → Nat → Int32)) D (fun u => OkI u ∧ (∀ a b, ¬ ((a = 36 ∧ (b = 76 ∨ b = 81)) ∨ a = 426) → u a b = i a b) ∧ ((u 36 76).toInt = (if lvB i (i 36 77).toInt.toNat = true then (i 36 76).toInt else 0))) (fun u => hwc g ka u r L d) (fun _ => []) A) ([.ref (g 36)] : List Value).toArray s 0 0 A) (F0 m 19 ls []) := by
      intro fuel_lp_5
      induction fuel_lp_5 with
      | zero => intros; omega
      | succ fuel_lp_5 ih_lp_5 =>
        intro t f H locs ls hm hr_t hr_f hi_lp_5_0 hi_lp_5_1 hl hH hS
        refine lv_iload_n hx hb dX12_settle_19 rfl (lv_at hl 0 rfl) ?_
        refine lv_aload_n hx hb dX12_settle_20 rfl (lv_at hl 2 rfl) ?_
        have bx_6 : (0 : Int) ≤ (i 36 77).toInt ∧ (i 36 77).toInt ≤ 3 := hO 36 77
        refine h_geti (ci := 12) (C := RX12) (F := TX12) (N := 86) hx hb hts in12 hown hK hH (by decide) (rfl : kd 36 = 12) (by decide) rfl 77 (by decide) wd2 (fun _ h9 => h9) (by decide) rfl dX12_settle_21 ?_
        refine lv_icmp_ge (tgt := 52) hx hb dX12_settle_24 (by decide) (fun c_7 => ?_) (fun c_7 => ?_)
        · skip
          have h_8 := s_le (rfl : (i 36 77).toInt = _) (rfl : f.toInt = _) c_7
          refine lv_iload_n hx hb dX12_settle_52 rfl (lv_at hl 1 rfl) ?_
          refine lv_if_eq (tgt := 57) hx hb dX12_settle_53 (by decide) (fun c_9 => ?_) (fun c_9 => ?_)
          · skip
            have h_10 := s_eq (rfl : t.toInt = _) (show (0 : Int32).toInt = 0 from rfl) c_9
            refine lv_aload_n hx hb dX12_settle_57 rfl (lv_at hl 2 rfl) ?_
            refine lv_iconst (v := 0) hx hb dX12_settle_58 (by decide) ?_
            have hO_11 := okp hO (n := 36) (k := 76) (v := 0) (show (0 : Int) ≤ (0 : Int32).toInt ∧ (0 : Int32).toInt ≤ 1 from ⟨by decide, by decide⟩)
            refine h_puti (ty := .boolean) (ci := 12) (C := RX12) (F := TX12) (N := 86) hx hb hts in12 tyX12 tyX12_ok nmX12 hown hK hH hS (by decide) (rfl : kd 36 = 12) (by decide) rfl 76 (by decide) wd3 (fun _ h9 => h9) rfl (by decide +kernel) (by decide +kernel) (by decide +kernel) (by decide) rfl dX12_settle_59 (fun H locs hH hS => ?_)
            refine lv_aload_n hx hb dX12_settle_62 rfl (lv_at hl 2 rfl) ?_
            refine lv_iconst (v := 5) hx hb dX12_settle_63 (by decide) ?_
            refine lv_aload_n hx hb dX12_settle_64 rfl (lv_at hl 2 rfl) ?_
            have bx_12 : (0 : Int) ≤ (i 36 80).toInt ∧ (i 36 80).toInt ≤ 5 := hO 36 80
            refine h_geti (ci := 12) (C := RX12) (F := TX12) (N := 86) hx hb hts in12 hown hK hH (by decide) (rfl : kd 36 = 12) (by decide) rfl 80 (by decide) wd4 (fun _ h9 => h9) (by decide) rfl dX12_settle_65 ?_
            refine sj_i (y := (i 36 80)) (up2_k _ _ (by decide)) ?_
            refine lv_aload_n hx hb dX12_settle_68 rfl (lv_at hl 2 rfl) ?_
            refine h_geti (ci := 12) (C := RX12) (F := TX12) (N := 86) hx hb hts in12 hown hK hH (by decide) (rfl : kd 36 = 12) (by decide) rfl 75 (by decide) wd5 (fun _ h9 => h9) (by decide) rfl dX12_settle_69 ?_
            refine sj_i (y := (i 36 75)) (up2_k _ _ (by decide)) ?_
            refine lv_iconst (v := 0) hx hb dX12_settle_72 (by decide) ?_
            have hl_13 : (5 : Int32).toInt = 5 := rfl
            have hl_14 : (0 : Int32).toInt = 0 := rfl
            have hp_15 : ((up2 i 36 76 0) 36 81).toInt = ((i 36 81) : Int32).toInt := congrArg Int32.toInt ((up2_k _ _ (by decide)))
            refine x_callv (va_runV (As := [.int 5, .int (i 36 80), .int (i 36 75), .int 0]) (rest := []) ⟨hx, hb, hml, hown, hts⟩ (m_tell l D g ka ad (up2 i 36 76 0) r L d 5 (i 36 80) (i 36 75) 0 hO_11 hR H.size (by omega)) (cwV 4 hts gX12_settle_X12_tell rfl rfl rfl (by decide +kernel) ⟨(Nat.le_of_ble_eq_true rfl), (Nat.le_of_ble_eq_true rfl)⟩) (x_preV (q := (RX12, TX12, 86)) hH hK (q_obj (by decide) (rfl : kd 36 = 12) (by decide)) rfl gxb (gxw hE hS (x_F hH hS hA))) rfl rfl hl.1 rfl (lv_room (Nat.le_of_ble_eq_true rfl)) dX12_settle_73 ⟨(Nat.le_of_ble_eq_true rfl), (Nat.le_of_ble_eq_true rfl)⟩) hH hS hA rfl rfl (fun im_18 H locs hw_17 hH hS => ?_)
            have hH : sj_H D A (hwc g ka im_18 r L d) H := hH
            obtain ⟨hO_20, hfr_19, he_21⟩ := hw_17
            have hbo := b01_c hi_lp_5_0
            rw [show f.toInt.toNat = (i 36 77).toInt.toNat by omega] at hbo
            have hp_22 : (im_18 36 76).toInt = (0 : Int32).toInt := congrArg Int32.toInt (((hfr_19 36 76 (by omega)).trans (up2_at _ _ _ _)))
            have hl_23 : (0 : Int32).toInt = 0 := rfl
            have hV_24 : (im_18 36 76).toInt = (if lvB i (i 36 77).toInt.toNat = true then (i 36 76).toInt else 0) := (by rw [if_neg (fun q => by have h9 := (hbo.resolve_left (fun q => by have := q.1; omega)).2; rw [q] at h9; exact absurd h9 (by decide))]; omega)
            exact sj_vret hx hb hr hlocks hS im_18 ⟨hO_20, (fun a b ha => ((hfr_19 a b (by omega)).trans (up2_o _ _ (by omega)))), hV_24⟩ hH (sj_Knil hK) (Nat.le_of_ble_eq_true rfl) (Nat.le_of_ble_eq_true rfl) dX12_settle_76
          · skip
            have h_25 := s_ne (rfl : t.toInt = _) (show (0 : Int32).toInt = 0 from rfl) c_9
            have hbo := b01_c hi_lp_5_0
            rw [show f.toInt.toNat = (i 36 77).toInt.toNat by omega] at hbo
            have hV_26 : (i 36 76).toInt = (if lvB i (i 36 77).toInt.toNat = true then (i 36 76).toInt else 0) := (by rw [if_pos (hbo.resolve_right (fun q => by have := q.1; omega)).2])
            exact sj_vret hx hb hr hlocks hS i ⟨hO, (fun a b ha => rfl), hV_26⟩ hH (sj_Knil hK) (Nat.le_of_ble_eq_true rfl) (Nat.le_of_ble_eq_true rfl) dX12_settle_56
        · skip
          have h_27 := s_nle (rfl : (i 36 77).toInt = _) (rfl : f.toInt = _) c_7
          refine lv_iload_n hx hb dX12_settle_27 rfl (lv_at hl 1 rfl) ?_
          refine lv_if_ne (tgt := 40) hx hb dX12_settle_28 (by decide) (fun c_28 => ?_) (fun c_28 => ?_)
          · skip
            have h_29 := s_ne (rfl : t.toInt = _) (show (0 : Int32).toInt = 0 from rfl) c_28
            refine lv_iconst (v := 1) hx hb dX12_settle_40 (by decide) ?_
            refine lv_goto (tgt := 45) hx hb dX12_settle_41 (by decide) ?_
            refine lv_istore_n (lv' := [(1, .int 1), (2, .int f), (0, .ref (g 36))]) hx hb dX12_settle_45 rfl hl (by decide) rfl (fun ls hl => ?_)
            obtain ⟨z_30, ez_30, hz_30⟩ := s_add (rfl : f.toInt = _) (show (1 : Int32).toInt = 1 from rfl) (by omega) (by omega)
            refine lv_iinc (v := z_30) (lv' := [(2, .int z_30), (1, .int 1), (0, .ref (g 36))]) hx hb dX12_settle_46 hl (k := 1) rfl ez_30 (by decide) rfl (fun ls hl => ?_)
            refine lv_goto (tgt := 19) hx hb dX12_settle_49 (by decide) ?_
            have hl_31 : (1 : Int32).toInt = 1 := rfl
            exact ih_lp_5 1 z_30 _ _ ls (by omega) (by omega) (by omega) (lvB_s hi_lp_5_0 (by omega) (by omega) (by omega)) (by omega) (lv_sub hl [0, 1, 2] rfl) hH hS
          · skip
            have h_32 := s_eq (rfl : t.toInt = _) (show (0 : Int32).toInt = 0 from rfl) c_28
            refine lv_aload_n hx hb dX12_settle_31 rfl (lv_at hl 2 rfl) ?_
            refine h_getr (ci := 12) (C := RX12) (F := TX12) (N := 86) hx hb hts in12 hown hK hH (by decide) (rfl : kd 36 = 12) (by decide) rfl 83 (by decide) wd6 (fun _ h9 => h9) (by decide) rfl (t := 427) (hR 36 83 rfl) (by decide) dX12_settle_32 ?_
            refine lv_iload_n hx hb dX12_settle_35 rfl (lv_at hl 0 rfl) ?_
            have bx_33 : (-1 : Int) ≤ (i 427 (f.toInt).toNat).toInt ∧ (i 427 (f.toInt).toNat).toInt ≤ 23 := hO 427 (f.toInt).toNat
            refine h_iald hx hb hK hH (by decide) (rfl : kd 427 = 13) (s_vin (N := 3) (rfl : f.toInt = _) (rfl : ln 427 = 3) (by omega) (by omega)) dX12_settle_36 ?_
            have ek_34 : f.toNatClampNeg = (f.toInt).toNat := (s_cl (show f.toInt = f.toInt by omega))
            refine sj_i (y := (i 427 (f.toInt).toNat)) (by rw [ek_34]) ?_
            refine lv_if_lt (tgt := 44) hx hb dX12_settle_37 (by decide) (fun c_35 => ?_) (fun c_35 => ?_)
            · skip
              have h_36 := s_lt (rfl : (i 427 (f.toInt).toNat).toInt = _) (show (0 : Int32).toInt = 0 from rfl) c_35
              refine lv_iconst (v := 0) hx hb dX12_settle_44 (by decide) ?_
              refine lv_istore_n (lv' := [(1, .int 0), (2, .int f), (0, .ref (g 36))]) hx hb dX12_settle_45 rfl hl (by decide) rfl (fun ls hl => ?_)
              obtain ⟨z_37, ez_37, hz_37⟩ := s_add (rfl : f.toInt = _) (show (1 : Int32).toInt = 1 from rfl) (by omega) (by omega)
              refine lv_iinc (v := z_37) (lv' := [(2, .int z_37), (1, .int 0), (0, .ref (g 36))]) hx hb dX12_settle_46 hl (k := 1) rfl ez_37 (by decide) rfl (fun ls hl => ?_)
              refine lv_goto (tgt := 19) hx hb dX12_settle_49 (by decide) ?_
              have hl_38 : (0 : Int32).toInt = 0 := rfl
              exact ih_lp_5 0 z_37 _ _ ls (by omega) (by omega) (by omega) (lvB_s hi_lp_5_0 (by omega) (by omega) (by omega)) (by omega) (lv_sub hl [0, 1, 2] rfl) hH hS
            · skip
              have h_39 := s_nlt (rfl : (i 427 (f.toInt).toNat).toInt = _) (show (0 : Int32).toInt = 0 from rfl) c_35
              refine lv_iconst (v := 1) hx hb dX12_settle_40 (by decide) ?_
              refine lv_goto (tgt := 45) hx hb dX12_settle_41 (by decide) ?_
              refine lv_istore_n (lv' := [(1, .int 1), (2, .int f), (0, .ref (g 36))]) hx hb dX12_settle_45 rfl hl (by decide) rfl (fun ls hl => ?_)
              obtain ⟨z_40, ez_40, hz_40⟩ := s_add (rfl : f.toInt = _) (show (1 : Int32).toInt = 1 from rfl) (by omega) (by omega)
              refine lv_iinc (v := z_40) (lv' := [(2, .int z_40), (1, .int 1), (0, .ref (g 36))]) hx hb dX12_settle_46 hl (k := 1) rfl ez_40 (by decide) rfl (fun ls hl => ?_)
              refine lv_goto (tgt := 19) hx hb dX12_settle_49 (by decide) ?_
              have hl_41 : (1 : Int32).toInt = 1 := rfl
              exact ih_lp_5 1 z_40 _ _ ls (by omega) (by omega) (by omega) (lvB_s hi_lp_5_0 (by omega) (by omega) (by omega)) (by omega) (lv_sub hl [0, 1, 2] rfl) hH hS
    have hl_42 : (0 : Int32).toInt = 0 := rfl
    have hl_43 : (0 : Int32).toInt = 0 := rfl
    exact lp_5 _ 0 0 _ _ ls (Nat.lt_succ_self _) (by omega) (by omega) (lvB_0 (by omega)) (by omega) (lv_sub hl [0, 1, 2] rfl) hH hS
  · skip
    have h_44 := s_nle (rfl : (i 36 33).toInt = _) (rfl : (i 36 79).toInt = _) c_3
    refine lv_iconst (v := 1) hx hb dX12_settle_11 (by decide) ?_
    refine lv_goto (tgt := 16) hx hb dX12_settle_12 (by decide) ?_
    refine lv_istore_n (lv' := [(1, .int 1), (0, .ref (g 36))]) hx hb dX12_settle_16 rfl hl (by decide) rfl (fun ls hl => ?_)
    refine lv_iconst (v := 0) hx hb dX12_settle_17 (by decide) ?_
    refine lv_istore_n (lv' := [(2, .int 0), (1, .int 1), (0, .ref (g 36))]) hx hb dX12_settle_18 rfl hl (by decide) rfl (fun ls hl => ?_)
    -- loop at 19
    have lp_45 : ∀ (fuel_lp_45 : Nat) (t : Int32) (f : Int32) (H : Heap) (locs : List Loc) (ls : Array Slot), (3 - f.toInt).toNat < fuel_lp_45 → (0 : Int) ≤ t.toInt ∧ t.toInt ≤ 1 → (0 : Int) ≤ f.toInt ∧ f.toInt ≤ 3 → t.toInt = b01 (lvB i f.toInt.toNat) → f.toInt ≤ (i 36 77).toInt → lv_has ls 3 [(2, .int f), (1, .int t), (0, .ref (g 36))] → sj_H D A (hwc g ka i r L d) H → va_S A s.heap H locs → W p l e (headSpec wsX12_settle ({ frames := 1, cells := 0, slots := 0, locals := 25 })).room s m ([.ref (g 36)] : List Value).toArray below meth c H locs 0 0 (MQ below (sj_Qv (S := (Nat → Nat → Int32)) D (fun u => OkI u ∧ (∀ a b, ¬ ((a = 36 ∧ (b = 76 ∨ b = 81)) ∨ a = 426) → u a b = i a b) ∧ ((u 36 76).toInt = (if lvB i (i 36 77).toInt.toNat = true then (i 36 76).toInt else 0))) (fun u => hwc g ka u r L d) (fun _ => []) A) ([.ref (g 36)] : List Value).toArray s 0 0 A) (F0 m 19 ls []) := by
      intro fuel_lp_45
      induction fuel_lp_45 with
      | zero => intros; omega
      | succ fuel_lp_45 ih_lp_45 =>
        intro t f H locs ls hm hr_t hr_f hi_lp_45_0 hi_lp_45_1 hl hH hS
        refine lv_iload_n hx hb dX12_settle_19 rfl (lv_at hl 0 rfl) ?_
        refine lv_aload_n hx hb dX12_settle_20 rfl (lv_at hl 2 rfl) ?_
        have bx_46 : (0 : Int) ≤ (i 36 77).toInt ∧ (i 36 77).toInt ≤ 3 := hO 36 77
        refine h_geti (ci := 12) (C := RX12) (F := TX12) (N := 86) hx hb hts in12 hown hK hH (by decide) (rfl : kd 36 = 12) (by decide) rfl 77 (by decide) wd2 (fun _ h9 => h9) (by decide) rfl dX12_settle_21 ?_
        refine lv_icmp_ge (tgt := 52) hx hb dX12_settle_24 (by decide) (fun c_47 => ?_) (fun c_47 => ?_)
        · skip
          have h_48 := s_le (rfl : (i 36 77).toInt = _) (rfl : f.toInt = _) c_47
          refine lv_iload_n hx hb dX12_settle_52 rfl (lv_at hl 1 rfl) ?_
          refine lv_if_eq (tgt := 57) hx hb dX12_settle_53 (by decide) (fun c_49 => ?_) (fun c_49 => ?_)
          · skip
            have h_50 := s_eq (rfl : t.toInt = _) (show (0 : Int32).toInt = 0 from rfl) c_49
            refine lv_aload_n hx hb dX12_settle_57 rfl (lv_at hl 2 rfl) ?_
            refine lv_iconst (v := 0) hx hb dX12_settle_58 (by decide) ?_
            have hO_51 := okp hO (n := 36) (k := 76) (v := 0) (show (0 : Int) ≤ (0 : Int32).toInt ∧ (0 : Int32).toInt ≤ 1 from ⟨by decide, by decide⟩)
            refine h_puti (ty := .boolean) (ci := 12) (C := RX12) (F := TX12) (N := 86) hx hb hts in12 tyX12 tyX12_ok nmX12 hown hK hH hS (by decide) (rfl : kd 36 = 12) (by decide) rfl 76 (by decide) wd3 (fun _ h9 => h9) rfl (by decide +kernel) (by decide +kernel) (by decide +kernel) (by decide) rfl dX12_settle_59 (fun H locs hH hS => ?_)
            refine lv_aload_n hx hb dX12_settle_62 rfl (lv_at hl 2 rfl) ?_
            refine lv_iconst (v := 5) hx hb dX12_settle_63 (by decide) ?_
            refine lv_aload_n hx hb dX12_settle_64 rfl (lv_at hl 2 rfl) ?_
            have bx_52 : (0 : Int) ≤ (i 36 80).toInt ∧ (i 36 80).toInt ≤ 5 := hO 36 80
            refine h_geti (ci := 12) (C := RX12) (F := TX12) (N := 86) hx hb hts in12 hown hK hH (by decide) (rfl : kd 36 = 12) (by decide) rfl 80 (by decide) wd4 (fun _ h9 => h9) (by decide) rfl dX12_settle_65 ?_
            refine sj_i (y := (i 36 80)) (up2_k _ _ (by decide)) ?_
            refine lv_aload_n hx hb dX12_settle_68 rfl (lv_at hl 2 rfl) ?_
            refine h_geti (ci := 12) (C := RX12) (F := TX12) (N := 86) hx hb hts in12 hown hK hH (by decide) (rfl : kd 36 = 12) (by decide) rfl 75 (by decide) wd5 (fun _ h9 => h9) (by decide) rfl dX12_settle_69 ?_
            refine sj_i (y := (i 36 75)) (up2_k _ _ (by decide)) ?_
            refine lv_iconst (v := 0) hx hb dX12_settle_72 (by decide) ?_
            have hl_53 : (5 : Int32).toInt = 5 := rfl
            have hl_54 : (0 : Int32).toInt = 0 := rfl
            have hp_55 : ((up2 i 36 76 0) 36 81).toInt = ((i 36 81) : Int32).toInt := congrArg Int32.toInt ((up2_k _ _ (by decide)))
            refine x_callv (va_runV (As := [.int 5, .int (i 36 80), .int (i 36 75), .int 0]) (rest := []) ⟨hx, hb, hml, hown, hts⟩ (m_tell l D g ka ad (up2 i 36 76 0) r L d 5 (i 36 80) (i 36 75) 0 hO_51 hR H.size (by omega)) (cwV 4 hts gX12_settle_X12_tell rfl rfl rfl (by decide +kernel) ⟨(Nat.le_of_ble_eq_true rfl), (Nat.le_of_ble_eq_true rfl)⟩) (x_preV (q := (RX12, TX12, 86)) hH hK (q_obj (by decide) (rfl : kd 36 = 12) (by decide)) rfl gxb (gxw hE hS (x_F hH hS hA))) rfl rfl hl.1 rfl (lv_room (Nat.le_of_ble_eq_true rfl)) dX12_settle_73 ⟨(Nat.le_of_ble_eq_true rfl), (Nat.le_of_ble_eq_true rfl)⟩) hH hS hA rfl rfl (fun im_58 H locs hw_57 hH hS => ?_)
            have hH : sj_H D A (hwc g ka im_58 r L d) H := hH
            obtain ⟨hO_60, hfr_59, he_61⟩ := hw_57
            have hbo := b01_c hi_lp_45_0
            rw [show f.toInt.toNat = (i 36 77).toInt.toNat by omega] at hbo
            have hp_62 : (im_58 36 76).toInt = (0 : Int32).toInt := congrArg Int32.toInt (((hfr_59 36 76 (by omega)).trans (up2_at _ _ _ _)))
            have hl_63 : (0 : Int32).toInt = 0 := rfl
            have hV_64 : (im_58 36 76).toInt = (if lvB i (i 36 77).toInt.toNat = true then (i 36 76).toInt else 0) := (by rw [if_neg (fun q => by have h9 := (hbo.resolve_left (fun q => by have := q.1; omega)).2; rw [q] at h9; exact absurd h9 (by decide))]; omega)
            exact sj_vret hx hb hr hlocks hS im_58 ⟨hO_60, (fun a b ha => ((hfr_59 a b (by omega)).trans (up2_o _ _ (by omega)))), hV_64⟩ hH (sj_Knil hK) (Nat.le_of_ble_eq_true rfl) (Nat.le_of_ble_eq_true rfl) dX12_settle_76
          · skip
            have h_65 := s_ne (rfl : t.toInt = _) (show (0 : Int32).toInt = 0 from rfl) c_49
            have hbo := b01_c hi_lp_45_0
            rw [show f.toInt.toNat = (i 36 77).toInt.toNat by omega] at hbo
            have hV_66 : (i 36 76).toInt = (if lvB i (i 36 77).toInt.toNat = true then (i 36 76).toInt else 0) := (by rw [if_pos (hbo.resolve_right (fun q => by have := q.1; omega)).2])
            exact sj_vret hx hb hr hlocks hS i ⟨hO, (fun a b ha => rfl), hV_66⟩ hH (sj_Knil hK) (Nat.le_of_ble_eq_true rfl) (Nat.le_of_ble_eq_true rfl) dX12_settle_56
        · skip
          have h_67 := s_nle (rfl : (i 36 77).toInt = _) (rfl : f.toInt = _) c_47
          refine lv_iload_n hx hb dX12_settle_27 rfl (lv_at hl 1 rfl) ?_
          refine lv_if_ne (tgt := 40) hx hb dX12_settle_28 (by decide) (fun c_68 => ?_) (fun c_68 => ?_)
          · skip
            have h_69 := s_ne (rfl : t.toInt = _) (show (0 : Int32).toInt = 0 from rfl) c_68
            refine lv_iconst (v := 1) hx hb dX12_settle_40 (by decide) ?_
            refine lv_goto (tgt := 45) hx hb dX12_settle_41 (by decide) ?_
            refine lv_istore_n (lv' := [(1, .int 1), (2, .int f), (0, .ref (g 36))]) hx hb dX12_settle_45 rfl hl (by decide) rfl (fun ls hl => ?_)
            obtain ⟨z_70, ez_70, hz_70⟩ := s_add (rfl : f.toInt = _) (show (1 : Int32).toInt = 1 from rfl) (by omega) (by omega)
            refine lv_iinc (v := z_70) (lv' := [(2, .int z_70), (1, .int 1), (0, .ref (g 36))]) hx hb dX12_settle_46 hl (k := 1) rfl ez_70 (by decide) rfl (fun ls hl => ?_)
            refine lv_goto (tgt := 19) hx hb dX12_settle_49 (by decide) ?_
            have hl_71 : (1 : Int32).toInt = 1 := rfl
            exact ih_lp_45 1 z_70 _ _ ls (by omega) (by omega) (by omega) (lvB_s hi_lp_45_0 (by omega) (by omega) (by omega)) (by omega) (lv_sub hl [0, 1, 2] rfl) hH hS
          · skip
            have h_72 := s_eq (rfl : t.toInt = _) (show (0 : Int32).toInt = 0 from rfl) c_68
            refine lv_aload_n hx hb dX12_settle_31 rfl (lv_at hl 2 rfl) ?_
            refine h_getr (ci := 12) (C := RX12) (F := TX12) (N := 86) hx hb hts in12 hown hK hH (by decide) (rfl : kd 36 = 12) (by decide) rfl 83 (by decide) wd6 (fun _ h9 => h9) (by decide) rfl (t := 427) (hR 36 83 rfl) (by decide) dX12_settle_32 ?_
            refine lv_iload_n hx hb dX12_settle_35 rfl (lv_at hl 0 rfl) ?_
            have bx_73 : (-1 : Int) ≤ (i 427 (f.toInt).toNat).toInt ∧ (i 427 (f.toInt).toNat).toInt ≤ 23 := hO 427 (f.toInt).toNat
            refine h_iald hx hb hK hH (by decide) (rfl : kd 427 = 13) (s_vin (N := 3) (rfl : f.toInt = _) (rfl : ln 427 = 3) (by omega) (by omega)) dX12_settle_36 ?_
            have ek_74 : f.toNatClampNeg = (f.toInt).toNat := (s_cl (show f.toInt = f.toInt by omega))
            refine sj_i (y := (i 427 (f.toInt).toNat)) (by rw [ek_74]) ?_
            refine lv_if_lt (tgt := 44) hx hb dX12_settle_37 (by decide) (fun c_75 => ?_) (fun c_75 => ?_)
            · skip
              have h_76 := s_lt (rfl : (i 427 (f.toInt).toNat).toInt = _) (show (0 : Int32).toInt = 0 from rfl) c_75
              refine lv_iconst (v := 0) hx hb dX12_settle_44 (by decide) ?_
              refine lv_istore_n (lv' := [(1, .int 0), (2, .int f), (0, .ref (g 36))]) hx hb dX12_settle_45 rfl hl (by decide) rfl (fun ls hl => ?_)
              obtain ⟨z_77, ez_77, hz_77⟩ := s_add (rfl : f.toInt = _) (show (1 : Int32).toInt = 1 from rfl) (by omega) (by omega)
              refine lv_iinc (v := z_77) (lv' := [(2, .int z_77), (1, .int 0), (0, .ref (g 36))]) hx hb dX12_settle_46 hl (k := 1) rfl ez_77 (by decide) rfl (fun ls hl => ?_)
              refine lv_goto (tgt := 19) hx hb dX12_settle_49 (by decide) ?_
              have hl_78 : (0 : Int32).toInt = 0 := rfl
              exact ih_lp_45 0 z_77 _ _ ls (by omega) (by omega) (by omega) (lvB_s hi_lp_45_0 (by omega) (by omega) (by omega)) (by omega) (lv_sub hl [0, 1, 2] rfl) hH hS
            · skip
              have h_79 := s_nlt (rfl : (i 427 (f.toInt).toNat).toInt = _) (show (0 : Int32).toInt = 0 from rfl) c_75
              refine lv_iconst (v := 1) hx hb dX12_settle_40 (by decide) ?_
              refine lv_goto (tgt := 45) hx hb dX12_settle_41 (by decide) ?_
              refine lv_istore_n (lv' := [(1, .int 1), (2, .int f), (0, .ref (g 36))]) hx hb dX12_settle_45 rfl hl (by decide) rfl (fun ls hl => ?_)
              obtain ⟨z_80, ez_80, hz_80⟩ := s_add (rfl : f.toInt = _) (show (1 : Int32).toInt = 1 from rfl) (by omega) (by omega)
              refine lv_iinc (v := z_80) (lv' := [(2, .int z_80), (1, .int 1), (0, .ref (g 36))]) hx hb dX12_settle_46 hl (k := 1) rfl ez_80 (by decide) rfl (fun ls hl => ?_)
              refine lv_goto (tgt := 19) hx hb dX12_settle_49 (by decide) ?_
              have hl_81 : (1 : Int32).toInt = 1 := rfl
              exact ih_lp_45 1 z_80 _ _ ls (by omega) (by omega) (by omega) (lvB_s hi_lp_45_0 (by omega) (by omega) (by omega)) (by omega) (lv_sub hl [0, 1, 2] rfl) hH hS
    have hl_82 : (1 : Int32).toInt = 1 := rfl
    have hl_83 : (0 : Int32).toInt = 0 := rfl
    exact lp_45 _ 1 0 _ _ ls (Nat.lt_succ_self _) (by omega) (by omega) (lvB_0 (by omega)) (by omega) (lv_sub hl [0, 1, 2] rfl) hH hS
