theorem bfL_at {i : Nat → Nat → Int32} {j : Nat} (h : (bfL i).getD j 0 = 46) : (i 402 j).toInt = 46 := by
  unfold bfL at h
  rw [tgL_getD] at h
  by_cases q : j < (i 36 40).toInt.toNat
  · rw [if_pos q, Nat.zero_add] at h; exact h
  · rw [if_neg q] at h; omega
/-- a number that a step names: at its place among the arguments -/
def nuA (i : Nat → Nat → Int32) (x : Int) : Prop := 0 ≤ x ∧ x < (i 36 57).toInt ∧ ((i 413 x.toNat).toInt = 105 ∨ (i 413 x.toNat).toInt = 100)
theorem AQ_n {i : Nat → Nat → Int32} {B : List Int} {x : Int} (h : AQ i B) (hn : nuA i x) : 0 ≤ (i 414 x.toNat).toInt ∧ (i 414 x.toNat).toInt < (i 415 x.toNat).toInt ∧ (i 415 x.toNat).toInt ≤ 60 := by
  obtain ⟨h0, h1, h2⟩ := hn
  exact (h x.toNat (by omega)).1 h2
theorem AQ_d {i : Nat → Nat → Int32} {x : Int} (h : AQ i (bfL i)) (hn : nuA i x) (hk : (i 413 x.toNat).toInt ≠ 105) : ∃ j : Nat, (i 414 x.toNat).toInt ≤ (j : Int) ∧ (j : Int) < (i 415 x.toNat).toInt ∧ (i 402 j).toInt = 46 := by
  obtain ⟨h0, h1, h2⟩ := hn
  obtain ⟨j, ha, hb, hc⟩ := (h x.toNat (by omega)).2 (by omega)
  exact ⟨j, ha, hb, bfL_at hc⟩
theorem jne {i : Nat → Nat → Int32} {j : Nat} {k : Int} (h : (i 402 j).toInt = 46) (hk : (i 402 k.toNat).toInt ≠ 46) : k ≠ (j : Int) := fun q => hk (by rw [q]; exact h)
theorem dX12_whole_0 : decode cX12_whole 0 = .ok (.iconst 0, 1) := by decide +kernel
theorem dX12_whole_1 : decode cX12_whole 1 = .ok (.istore_n 3, 1) := by decide +kernel
theorem dX12_whole_2 : decode cX12_whole 2 = .ok (.iload_n 1, 1) := by decide +kernel
theorem dX12_whole_3 : decode cX12_whole 3 = .ok (.istore 4, 2) := by decide +kernel
theorem dX12_whole_5 : decode cX12_whole 5 = .ok (.iload 4, 2) := by decide +kernel
theorem dX12_whole_7 : decode cX12_whole 7 = .ok (.iload_n 2, 1) := by decide +kernel
theorem dX12_whole_8 : decode cX12_whole 8 = .ok (.if_icmp .ge 53, 3) := by decide +kernel
theorem dX12_whole_61 : decode cX12_whole 61 = .ok (.aload_n 0, 1) := by decide +kernel
theorem dX12_whole_62 : decode cX12_whole 62 = .ok (.getfield 227, 3) := by decide +kernel
theorem dX12_whole_65 : decode cX12_whole 65 = .ok (.iload_n 1, 1) := by decide +kernel
theorem dX12_whole_66 : decode cX12_whole 66 = .ok (.caload, 1) := by decide +kernel
theorem dX12_whole_67 : decode cX12_whole 67 = .ok (.bipush 45, 2) := by decide +kernel
theorem dX12_whole_69 : decode cX12_whole 69 = .ok (.if_icmp .ne 8, 3) := by decide +kernel
theorem dX12_whole_77 : decode cX12_whole 77 = .ok (.iload_n 3, 1) := by decide +kernel
theorem dX12_whole_78 : decode cX12_whole 78 = .ok (.ireturn, 1) := by decide +kernel
theorem dX12_whole_72 : decode cX12_whole 72 = .ok (.iload_n 3, 1) := by decide +kernel
theorem dX12_whole_73 : decode cX12_whole 73 = .ok (.ineg, 1) := by decide +kernel
theorem dX12_whole_74 : decode cX12_whole 74 = .ok (.goto 4, 3) := by decide +kernel
theorem dX12_whole_11 : decode cX12_whole 11 = .ok (.aload_n 0, 1) := by decide +kernel
theorem dX12_whole_12 : decode cX12_whole 12 = .ok (.getfield 227, 3) := by decide +kernel
theorem dX12_whole_15 : decode cX12_whole 15 = .ok (.iload 4, 2) := by decide +kernel
theorem dX12_whole_17 : decode cX12_whole 17 = .ok (.caload, 1) := by decide +kernel
theorem dX12_whole_18 : decode cX12_whole 18 = .ok (.bipush 48, 2) := by decide +kernel
theorem dX12_whole_20 : decode cX12_whole 20 = .ok (.if_icmp .lt 33, 3) := by decide +kernel
theorem dX12_whole_53 : decode cX12_whole 53 = .ok (.iload_n 3, 1) := by decide +kernel
theorem dX12_whole_54 : decode cX12_whole 54 = .ok (.istore_n 3, 1) := by decide +kernel
theorem dX12_whole_55 : decode cX12_whole 55 = .ok (.iinc 4 1, 3) := by decide +kernel
theorem dX12_whole_58 : decode cX12_whole 58 = .ok (.goto (-53), 3) := by decide +kernel
theorem dX12_whole_23 : decode cX12_whole 23 = .ok (.aload_n 0, 1) := by decide +kernel
theorem dX12_whole_24 : decode cX12_whole 24 = .ok (.getfield 227, 3) := by decide +kernel
theorem dX12_whole_27 : decode cX12_whole 27 = .ok (.iload 4, 2) := by decide +kernel
theorem dX12_whole_29 : decode cX12_whole 29 = .ok (.caload, 1) := by decide +kernel
theorem dX12_whole_30 : decode cX12_whole 30 = .ok (.bipush 57, 2) := by decide +kernel
theorem dX12_whole_32 : decode cX12_whole 32 = .ok (.if_icmp .gt 21, 3) := by decide +kernel
theorem dX12_whole_35 : decode cX12_whole 35 = .ok (.bipush 10, 2) := by decide +kernel
theorem dX12_whole_37 : decode cX12_whole 37 = .ok (.iload_n 3, 1) := by decide +kernel
theorem dX12_whole_38 : decode cX12_whole 38 = .ok (.imul, 1) := by decide +kernel
theorem dX12_whole_39 : decode cX12_whole 39 = .ok (.aload_n 0, 1) := by decide +kernel
theorem dX12_whole_40 : decode cX12_whole 40 = .ok (.getfield 227, 3) := by decide +kernel
theorem dX12_whole_43 : decode cX12_whole 43 = .ok (.iload 4, 2) := by decide +kernel
theorem dX12_whole_45 : decode cX12_whole 45 = .ok (.caload, 1) := by decide +kernel
theorem dX12_whole_46 : decode cX12_whole 46 = .ok (.iadd, 1) := by decide +kernel
theorem dX12_whole_47 : decode cX12_whole 47 = .ok (.bipush 48, 2) := by decide +kernel
theorem dX12_whole_49 : decode cX12_whole 49 = .ok (.isub, 1) := by decide +kernel
theorem dX12_whole_50 : decode cX12_whole 50 = .ok (.goto 4, 3) := by decide +kernel
theorem dX12_isNumber_0 : decode cX12_isNumber 0 = .ok (.iload_n 1, 1) := by decide +kernel
theorem dX12_isNumber_1 : decode cX12_isNumber 1 = .ok (.ifCond .lt 37, 3) := by decide +kernel
theorem dX12_isNumber_38 : decode cX12_isNumber 38 = .ok (.iconst 0, 1) := by decide +kernel
theorem dX12_isNumber_39 : decode cX12_isNumber 39 = .ok (.ireturn, 1) := by decide +kernel
theorem dX12_isNumber_4 : decode cX12_isNumber 4 = .ok (.iload_n 1, 1) := by decide +kernel
theorem dX12_isNumber_5 : decode cX12_isNumber 5 = .ok (.aload_n 0, 1) := by decide +kernel
theorem dX12_isNumber_6 : decode cX12_isNumber 6 = .ok (.getfield 348, 3) := by decide +kernel
theorem dX12_isNumber_9 : decode cX12_isNumber 9 = .ok (.if_icmp .ge 29, 3) := by decide +kernel
theorem dX12_isNumber_12 : decode cX12_isNumber 12 = .ok (.aload_n 0, 1) := by decide +kernel
theorem dX12_isNumber_13 : decode cX12_isNumber 13 = .ok (.getfield 351, 3) := by decide +kernel
theorem dX12_isNumber_16 : decode cX12_isNumber 16 = .ok (.iload_n 1, 1) := by decide +kernel
theorem dX12_isNumber_17 : decode cX12_isNumber 17 = .ok (.caload, 1) := by decide +kernel
theorem dX12_isNumber_18 : decode cX12_isNumber 18 = .ok (.bipush 105, 2) := by decide +kernel
theorem dX12_isNumber_20 : decode cX12_isNumber 20 = .ok (.if_icmp .eq 14, 3) := by decide +kernel
theorem dX12_isNumber_34 : decode cX12_isNumber 34 = .ok (.iconst 1, 1) := by decide +kernel
theorem dX12_isNumber_35 : decode cX12_isNumber 35 = .ok (.goto 4, 3) := by decide +kernel
theorem dX12_isNumber_23 : decode cX12_isNumber 23 = .ok (.aload_n 0, 1) := by decide +kernel
theorem dX12_isNumber_24 : decode cX12_isNumber 24 = .ok (.getfield 351, 3) := by decide +kernel
theorem dX12_isNumber_27 : decode cX12_isNumber 27 = .ok (.iload_n 1, 1) := by decide +kernel
theorem dX12_isNumber_28 : decode cX12_isNumber 28 = .ok (.caload, 1) := by decide +kernel
theorem dX12_isNumber_29 : decode cX12_isNumber 29 = .ok (.bipush 100, 2) := by decide +kernel
theorem dX12_isNumber_31 : decode cX12_isNumber 31 = .ok (.if_icmp .ne 7, 3) := by decide +kernel
theorem dX12_argumentValue_0 : decode cX12_argumentValue 0 = .ok (.aload_n 0, 1) := by decide +kernel
theorem dX12_argumentValue_1 : decode cX12_argumentValue 1 = .ok (.aload_n 0, 1) := by decide +kernel
theorem dX12_argumentValue_2 : decode cX12_argumentValue 2 = .ok (.getfield 354, 3) := by decide +kernel
theorem dX12_argumentValue_5 : decode cX12_argumentValue 5 = .ok (.iload_n 1, 1) := by decide +kernel
theorem dX12_argumentValue_6 : decode cX12_argumentValue 6 = .ok (.iaload, 1) := by decide +kernel
theorem dX12_argumentValue_7 : decode cX12_argumentValue 7 = .ok (.aload_n 0, 1) := by decide +kernel
theorem dX12_argumentValue_8 : decode cX12_argumentValue 8 = .ok (.getfield 357, 3) := by decide +kernel
theorem dX12_argumentValue_11 : decode cX12_argumentValue 11 = .ok (.iload_n 1, 1) := by decide +kernel
theorem dX12_argumentValue_12 : decode cX12_argumentValue 12 = .ok (.iaload, 1) := by decide +kernel
theorem dX12_argumentValue_13 : decode cX12_argumentValue 13 = .ok (.invokevirtual 433, 3) := by decide +kernel
theorem dX12_argumentValue_16 : decode cX12_argumentValue 16 = .ok (.i2d, 1) := by decide +kernel
theorem dX12_argumentValue_17 : decode cX12_argumentValue 17 = .ok (.dstore_n 2, 1) := by decide +kernel
theorem dX12_argumentValue_18 : decode cX12_argumentValue 18 = .ok (.aload_n 0, 1) := by decide +kernel
theorem dX12_argumentValue_19 : decode cX12_argumentValue 19 = .ok (.getfield 351, 3) := by decide +kernel
theorem dX12_argumentValue_22 : decode cX12_argumentValue 22 = .ok (.iload_n 1, 1) := by decide +kernel
theorem dX12_argumentValue_23 : decode cX12_argumentValue 23 = .ok (.caload, 1) := by decide +kernel
theorem dX12_argumentValue_24 : decode cX12_argumentValue 24 = .ok (.bipush 105, 2) := by decide +kernel
theorem dX12_argumentValue_26 : decode cX12_argumentValue 26 = .ok (.if_icmp .ne 5, 3) := by decide +kernel
theorem dX12_argumentValue_31 : decode cX12_argumentValue 31 = .ok (.iconst 0, 1) := by decide +kernel
theorem dX12_argumentValue_32 : decode cX12_argumentValue 32 = .ok (.istore 4, 2) := by decide +kernel
theorem dX12_argumentValue_34 : decode cX12_argumentValue 34 = .ok (.aload_n 0, 1) := by decide +kernel
theorem dX12_argumentValue_35 : decode cX12_argumentValue 35 = .ok (.getfield 227, 3) := by decide +kernel
theorem dX12_argumentValue_38 : decode cX12_argumentValue 38 = .ok (.aload_n 0, 1) := by decide +kernel
theorem dX12_argumentValue_39 : decode cX12_argumentValue 39 = .ok (.getfield 357, 3) := by decide +kernel
theorem dX12_argumentValue_42 : decode cX12_argumentValue 42 = .ok (.iload_n 1, 1) := by decide +kernel
theorem dX12_argumentValue_43 : decode cX12_argumentValue 43 = .ok (.iaload, 1) := by decide +kernel
theorem dX12_argumentValue_44 : decode cX12_argumentValue 44 = .ok (.iconst 1, 1) := by decide +kernel
theorem dX12_argumentValue_45 : decode cX12_argumentValue 45 = .ok (.isub, 1) := by decide +kernel
theorem dX12_argumentValue_46 : decode cX12_argumentValue 46 = .ok (.iload 4, 2) := by decide +kernel
theorem dX12_argumentValue_48 : decode cX12_argumentValue 48 = .ok (.isub, 1) := by decide +kernel
theorem dX12_argumentValue_49 : decode cX12_argumentValue 49 = .ok (.caload, 1) := by decide +kernel
theorem dX12_argumentValue_50 : decode cX12_argumentValue 50 = .ok (.bipush 46, 2) := by decide +kernel
theorem dX12_argumentValue_52 : decode cX12_argumentValue 52 = .ok (.if_icmp .eq 9, 3) := by decide +kernel
theorem dX12_argumentValue_61 : decode cX12_argumentValue 61 = .ok (.dload_n 2, 1) := by decide +kernel
theorem dX12_argumentValue_62 : decode cX12_argumentValue 62 = .ok (.iload 4, 2) := by decide +kernel
theorem dX12_argumentValue_64 : decode cX12_argumentValue 64 = .ok (.iconst 1, 1) := by decide +kernel
theorem dX12_argumentValue_65 : decode cX12_argumentValue 65 = .ok (.if_icmp .ne 9, 3) := by decide +kernel
theorem dX12_argumentValue_74 : decode cX12_argumentValue 74 = .ok (.iload 4, 2) := by decide +kernel
theorem dX12_argumentValue_76 : decode cX12_argumentValue 76 = .ok (.iconst 2, 1) := by decide +kernel
theorem dX12_argumentValue_77 : decode cX12_argumentValue 77 = .ok (.if_icmp .ne 9, 3) := by decide +kernel
theorem dX12_argumentValue_86 : decode cX12_argumentValue 86 = .ok (.ldc2_w 440, 3) := by decide +kernel
theorem dX12_argumentValue_89 : decode cX12_argumentValue 89 = .ok (.ddiv, 1) := by decide +kernel
theorem dX12_argumentValue_90 : decode cX12_argumentValue 90 = .ok (.dreturn, 1) := by decide +kernel
theorem dX12_argumentValue_80 : decode cX12_argumentValue 80 = .ok (.ldc2_w 438, 3) := by decide +kernel
theorem dX12_argumentValue_83 : decode cX12_argumentValue 83 = .ok (.goto 6, 3) := by decide +kernel
theorem dX12_argumentValue_68 : decode cX12_argumentValue 68 = .ok (.ldc2_w 436, 3) := by decide +kernel
theorem dX12_argumentValue_71 : decode cX12_argumentValue 71 = .ok (.goto 18, 3) := by decide +kernel
theorem dX12_argumentValue_55 : decode cX12_argumentValue 55 = .ok (.iinc 4 1, 3) := by decide +kernel
theorem dX12_argumentValue_58 : decode cX12_argumentValue 58 = .ok (.goto (-24), 3) := by decide +kernel
theorem dX12_argumentValue_29 : decode cX12_argumentValue 29 = .ok (.dload_n 2, 1) := by decide +kernel
theorem dX12_argumentValue_30 : decode cX12_argumentValue 30 = .ok (.dreturn, 1) := by decide +kernel
theorem gw_X12_whole : wsX12_whole.all goodWord = true := by decide +kernel
theorem gX12_argumentValue_X12_whole : GoodIn wsX12_argumentValue (wsV RX12 433 RX12 yX12_whole wsX12_whole) := goodIn_app (goodIn_sub (List.forall_mem_cons.mpr ⟨(List.mem_cons_of_mem _ (List.mem_append_left _ lm7)), List.forall_mem_cons.mpr ⟨(List.mem_cons_of_mem _ (List.mem_append_left _ lm8)), List.forall_mem_cons.mpr ⟨(List.mem_cons_of_mem _ (List.mem_append_left _ lm9)), List.forall_mem_cons.mpr ⟨(List.mem_cons_of_mem _ (List.mem_append_left _ lm10)), (fun _ h => absurd h List.not_mem_nil)⟩⟩⟩⟩) (by decide +kernel)) (goodIn_sub (by unfold wsX12_whole; exact List.forall_mem_cons.mpr ⟨(List.mem_cons_of_mem _ (List.mem_append_left _ lm11)), List.forall_mem_append.mpr ⟨List.forall_mem_cons.mpr ⟨(List.mem_cons_of_mem _ (List.mem_append_left _ lm3)), (fun _ h => absurd h List.not_mem_nil)⟩, (fun _ h => (List.mem_cons_of_mem _ (List.mem_append_right _ h)))⟩⟩) gw_X12_whole)
set_option maxHeartbeats 2000000 in
set_option maxRecDepth 100000 in
theorem m_whole (l : Launch) (D : va_G) (g : Nat → Nat) (ka : Nat → ClassId) (ad : Nat → Nat) (i : Nat → Nat → Int32) (r : Nat → Nat → Nat) (L : Nat → Nat → Int64) (d : Nat → Nat → UInt64) (x : Int32) (y : Int32) (hO : OkI i) (hR : RS r) (sz : Nat) (hx0 : 0 ≤ x.toInt) (hx1 : x.toInt ≤ 59) (hy1 : y.toInt ≤ 60) : Met l yX12_whole wsX12_whole ({ frames := 0, cells := 0, slots := 0, locals := 0 }) (va_Pc [.ref (g 36), .int x, .int y] (sj_B D (hwc g ka i r L d) (hT ka) sz (gx ad (va_A (hwc g ka i r L d) sz)))) (sj_Qi (S := Unit) D (fun v u => True) (fun _ => hwc g ka i r L d) (fun _ => []) (va_A (hwc g ka i r L d) sz)) 0 0 (va_A (hwc g ka i r L d) sz) := by
  refine x_met (Ex := gx ad) (cc := cX12_whole) (maxL := 5) (ret := (some .int)) (by decide) rfl (Nat.le_of_ble_eq_true rfl) ?_
  intro p e s m below meth c A ls hx hb hr hml hts hown hlocks hA hS hH hK hE hl
  have hown : s.vm.findClass RX12 = some m.cls := hown
  have in12 : ∀ w ∈ wsX120, w ∈ wsX12_whole := (fun _ h => (List.mem_cons_of_mem _ (List.mem_append_right _ h)))
  have wd0 := hts (.fieldLink RX12 227 "StoryDeskModel" "buffer" "[C") (List.mem_cons_of_mem _ (List.mem_append_left _ lm0))
  have hl : lv_has ls 5 [(0, .ref (g 36)), (1, .int x), (2, .int y)] := hl
  have hK : va_K D vwCl (hT ka) s := hK
  refine lv_iconst (v := 0) hx hb dX12_whole_0 (by decide) ?_
  refine lv_istore_n (lv' := [(3, .int 0), (0, .ref (g 36)), (1, .int x), (2, .int y)]) hx hb dX12_whole_1 rfl hl (by decide) rfl (fun ls hl => ?_)
  refine lv_iload_n hx hb dX12_whole_2 rfl (lv_at hl 2 rfl) ?_
  refine lv_istore (lv' := [(4, .int x), (3, .int 0), (0, .ref (g 36)), (1, .int x), (2, .int y)]) hx hb dX12_whole_3 hl (by decide) rfl (fun ls hl => ?_)
  -- loop at 5
  have lp_1 : ∀ (fuel_lp_1 : Nat) (f : Int32) (t : Int32) (H : Heap) (locs : List Loc) (ls : Array Slot), (61 - f.toInt).toNat < fuel_lp_1 → (0 : Int) ≤ f.toInt ∧ f.toInt ≤ 60 → lv_has ls 5 [(4, .int f), (3, .int t), (0, .ref (g 36)), (1, .int x), (2, .int y)] → sj_H D A (hwc g ka i r L d) H → va_S A s.heap H locs → W p l e (headSpec wsX12_whole ({ frames := 0, cells := 0, slots := 0, locals := 0 })).room s m ([.ref (g 36), .int x, .int y] : List Value).toArray below meth c H locs 0 0 (MQ below (sj_Qi (S := Unit) D (fun v u => True) (fun _ => hwc g ka i r L d) (fun _ => []) A) ([.ref (g 36), .int x, .int y] : List Value).toArray s 0 0 A) (F0 m 5 ls []) := by
    intro fuel_lp_1
    induction fuel_lp_1 with
    | zero => intros; omega
    | succ fuel_lp_1 ih_lp_1 =>
      intro f t H locs ls hm hr_f hl hH hS
      have hg_2 := s_rng t
      refine lv_iload hx hb dX12_whole_5 (lv_at hl 0 rfl) ?_
      refine lv_iload_n hx hb dX12_whole_7 rfl (lv_at hl 4 rfl) ?_
      refine lv_icmp_ge (tgt := 61) hx hb dX12_whole_8 (by decide) (fun c_3 => ?_) (fun c_3 => ?_)
      · skip
        have h_4 := s_le (rfl : y.toInt = _) (rfl : f.toInt = _) c_3
        refine lv_aload_n hx hb dX12_whole_61 rfl (lv_at hl 2 rfl) ?_
        refine h_getr (ci := 12) (C := RX12) (F := TX12) (N := 86) hx hb hts in12 hown hK hH (by decide) (rfl : kd 36 = 12) (by decide) rfl 39 (by decide) wd0 (fun _ h9 => h9) (by decide) rfl (t := 402) (hR 36 39 rfl) (by decide) dX12_whole_62 ?_
        refine lv_iload_n hx hb dX12_whole_65 rfl (lv_at hl 3 rfl) ?_
        have bx_5 : (0 : Int) ≤ (i 402 (x.toInt).toNat).toInt ∧ (i 402 (x.toInt).toNat).toInt ≤ 65535 := hO 402 (x.toInt).toNat
        refine h_cald hx hb hK hH (by decide) (rfl : kd 402 = 14) (s_vin (N := 60) (rfl : x.toInt = _) (rfl : ln 402 = 60) (by omega) (by omega)) dX12_whole_66 ?_
        have ek_6 : x.toNatClampNeg = (x.toInt).toNat := (s_cl (show x.toInt = x.toInt by omega))
        refine sj_i (y := (i 402 (x.toInt).toNat)) (by rw [ek_6]) ?_
        refine lv_bipush (v := 45) hx hb dX12_whole_67 (by decide) ?_
        refine lv_icmp_ne (tgt := 77) hx hb dX12_whole_69 (by decide) (fun c_7 => ?_) (fun c_7 => ?_)
        · skip
          have h_8 := s_ne (rfl : (i 402 (x.toInt).toNat).toInt = _) (show (45 : Int32).toInt = 45 from rfl) c_7
          refine lv_iload_n hx hb dX12_whole_77 rfl (lv_at hl 1 rfl) ?_
          exact sj_zret hx hb hr hlocks rfl hS () trivial hH (sj_Knil hK) (Nat.le_of_ble_eq_true rfl) (Nat.le_of_ble_eq_true rfl) dX12_whole_78
        · skip
          have h_9 := s_eq (rfl : (i 402 (x.toInt).toNat).toInt = _) (show (45 : Int32).toInt = 45 from rfl) c_7
          refine lv_iload_n hx hb dX12_whole_72 rfl (lv_at hl 1 rfl) ?_
          refine lv_ineg hx hb dX12_whole_73 ?_
          obtain ⟨z_10, ez_10⟩ : ∃ z, -t = z := ⟨_, rfl⟩
          refine sj_i ez_10 ?_
          refine lv_goto (tgt := 78) hx hb dX12_whole_74 (by decide) ?_
          exact sj_zret hx hb hr hlocks rfl hS () trivial hH (sj_Knil hK) (Nat.le_of_ble_eq_true rfl) (Nat.le_of_ble_eq_true rfl) dX12_whole_78
      · skip
        have h_11 := s_nle (rfl : y.toInt = _) (rfl : f.toInt = _) c_3
        refine lv_aload_n hx hb dX12_whole_11 rfl (lv_at hl 2 rfl) ?_
        refine h_getr (ci := 12) (C := RX12) (F := TX12) (N := 86) hx hb hts in12 hown hK hH (by decide) (rfl : kd 36 = 12) (by decide) rfl 39 (by decide) wd0 (fun _ h9 => h9) (by decide) rfl (t := 402) (hR 36 39 rfl) (by decide) dX12_whole_12 ?_
        refine lv_iload hx hb dX12_whole_15 (lv_at hl 0 rfl) ?_
        have bx_12 : (0 : Int) ≤ (i 402 (f.toInt).toNat).toInt ∧ (i 402 (f.toInt).toNat).toInt ≤ 65535 := hO 402 (f.toInt).toNat
        refine h_cald hx hb hK hH (by decide) (rfl : kd 402 = 14) (s_vin (N := 60) (rfl : f.toInt = _) (rfl : ln 402 = 60) (by omega) (by omega)) dX12_whole_17 ?_
        have ek_13 : f.toNatClampNeg = (f.toInt).toNat := (s_cl (show f.toInt = f.toInt by omega))
        refine sj_i (y := (i 402 (f.toInt).toNat)) (by rw [ek_13]) ?_
        refine lv_bipush (v := 48) hx hb dX12_whole_18 (by decide) ?_
        refine lv_icmp_lt (tgt := 53) hx hb dX12_whole_20 (by decide) (fun c_14 => ?_) (fun c_14 => ?_)
        · skip
          have h_15 := s_lt (rfl : (i 402 (f.toInt).toNat).toInt = _) (show (48 : Int32).toInt = 48 from rfl) c_14
          refine lv_iload_n hx hb dX12_whole_53 rfl (lv_at hl 1 rfl) ?_
          refine lv_istore_n (lv' := [(3, .int t), (4, .int f), (0, .ref (g 36)), (1, .int x), (2, .int y)]) hx hb dX12_whole_54 rfl hl (by decide) rfl (fun ls hl => ?_)
          obtain ⟨z_16, ez_16, hz_16⟩ := s_add (rfl : f.toInt = _) (show (1 : Int32).toInt = 1 from rfl) (by omega) (by omega)
          refine lv_iinc (v := z_16) (lv' := [(4, .int z_16), (3, .int t), (0, .ref (g 36)), (1, .int x), (2, .int y)]) hx hb dX12_whole_55 hl (k := 1) rfl ez_16 (by decide) rfl (fun ls hl => ?_)
          refine lv_goto (tgt := 5) hx hb dX12_whole_58 (by decide) ?_
          exact ih_lp_1 z_16 t _ _ ls (by omega) (by omega) (lv_sub hl [0, 1, 2, 3, 4] rfl) hH hS
        · skip
          have h_17 := s_nlt (rfl : (i 402 (f.toInt).toNat).toInt = _) (show (48 : Int32).toInt = 48 from rfl) c_14
          refine lv_aload_n hx hb dX12_whole_23 rfl (lv_at hl 2 rfl) ?_
          refine h_getr (ci := 12) (C := RX12) (F := TX12) (N := 86) hx hb hts in12 hown hK hH (by decide) (rfl : kd 36 = 12) (by decide) rfl 39 (by decide) wd0 (fun _ h9 => h9) (by decide) rfl (t := 402) (hR 36 39 rfl) (by decide) dX12_whole_24 ?_
          refine lv_iload hx hb dX12_whole_27 (lv_at hl 0 rfl) ?_
          refine h_cald hx hb hK hH (by decide) (rfl : kd 402 = 14) (s_vin (N := 60) (rfl : f.toInt = _) (rfl : ln 402 = 60) (by omega) (by omega)) dX12_whole_29 ?_
          have ek_18 : f.toNatClampNeg = (f.toInt).toNat := (s_cl (show f.toInt = f.toInt by omega))
          refine sj_i (y := (i 402 (f.toInt).toNat)) (by rw [ek_18]) ?_
          refine lv_bipush (v := 57) hx hb dX12_whole_30 (by decide) ?_
          refine lv_icmp_gt (tgt := 53) hx hb dX12_whole_32 (by decide) (fun c_19 => ?_) (fun c_19 => ?_)
          · skip
            have h_20 := s_lt (show (57 : Int32).toInt = 57 from rfl) (rfl : (i 402 (f.toInt).toNat).toInt = _) c_19
            refine lv_iload_n hx hb dX12_whole_53 rfl (lv_at hl 1 rfl) ?_
            refine lv_istore_n (lv' := [(3, .int t), (4, .int f), (0, .ref (g 36)), (1, .int x), (2, .int y)]) hx hb dX12_whole_54 rfl hl (by decide) rfl (fun ls hl => ?_)
            obtain ⟨z_21, ez_21, hz_21⟩ := s_add (rfl : f.toInt = _) (show (1 : Int32).toInt = 1 from rfl) (by omega) (by omega)
            refine lv_iinc (v := z_21) (lv' := [(4, .int z_21), (3, .int t), (0, .ref (g 36)), (1, .int x), (2, .int y)]) hx hb dX12_whole_55 hl (k := 1) rfl ez_21 (by decide) rfl (fun ls hl => ?_)
            refine lv_goto (tgt := 5) hx hb dX12_whole_58 (by decide) ?_
            exact ih_lp_1 z_21 t _ _ ls (by omega) (by omega) (lv_sub hl [0, 1, 2, 3, 4] rfl) hH hS
          · skip
            have h_22 := s_nlt (show (57 : Int32).toInt = 57 from rfl) (rfl : (i 402 (f.toInt).toNat).toInt = _) c_19
            refine lv_bipush (v := 10) hx hb dX12_whole_35 (by decide) ?_
            refine lv_iload_n hx hb dX12_whole_37 rfl (lv_at hl 1 rfl) ?_
            refine lv_imul hx hb dX12_whole_38 ?_
            obtain ⟨z_23, ez_23⟩ : ∃ z, 10 * t = z := ⟨_, rfl⟩
            refine sj_i ez_23 ?_
            refine lv_aload_n hx hb dX12_whole_39 rfl (lv_at hl 2 rfl) ?_
            refine h_getr (ci := 12) (C := RX12) (F := TX12) (N := 86) hx hb hts in12 hown hK hH (by decide) (rfl : kd 36 = 12) (by decide) rfl 39 (by decide) wd0 (fun _ h9 => h9) (by decide) rfl (t := 402) (hR 36 39 rfl) (by decide) dX12_whole_40 ?_
            refine lv_iload hx hb dX12_whole_43 (lv_at hl 0 rfl) ?_
            refine h_cald hx hb hK hH (by decide) (rfl : kd 402 = 14) (s_vin (N := 60) (rfl : f.toInt = _) (rfl : ln 402 = 60) (by omega) (by omega)) dX12_whole_45 ?_
            have ek_24 : f.toNatClampNeg = (f.toInt).toNat := (s_cl (show f.toInt = f.toInt by omega))
            refine sj_i (y := (i 402 (f.toInt).toNat)) (by rw [ek_24]) ?_
            refine lv_iadd hx hb dX12_whole_46 ?_
            obtain ⟨z_25, ez_25⟩ : ∃ z, z_23 + (i 402 (f.toInt).toNat) = z := ⟨_, rfl⟩
            refine sj_i ez_25 ?_
            refine lv_bipush (v := 48) hx hb dX12_whole_47 (by decide) ?_
            refine lv_isub hx hb dX12_whole_49 ?_
            obtain ⟨z_26, ez_26⟩ : ∃ z, z_25 - 48 = z := ⟨_, rfl⟩
            refine sj_i ez_26 ?_
            refine lv_goto (tgt := 54) hx hb dX12_whole_50 (by decide) ?_
            refine lv_istore_n (lv' := [(3, .int z_26), (4, .int f), (0, .ref (g 36)), (1, .int x), (2, .int y)]) hx hb dX12_whole_54 rfl hl (by decide) rfl (fun ls hl => ?_)
            obtain ⟨z_27, ez_27, hz_27⟩ := s_add (rfl : f.toInt = _) (show (1 : Int32).toInt = 1 from rfl) (by omega) (by omega)
            refine lv_iinc (v := z_27) (lv' := [(4, .int z_27), (3, .int z_26), (0, .ref (g 36)), (1, .int x), (2, .int y)]) hx hb dX12_whole_55 hl (k := 1) rfl ez_27 (by decide) rfl (fun ls hl => ?_)
            refine lv_goto (tgt := 5) hx hb dX12_whole_58 (by decide) ?_
            exact ih_lp_1 z_27 z_26 _ _ ls (by omega) (by omega) (lv_sub hl [0, 1, 2, 3, 4] rfl) hH hS
  have hl_28 : (0 : Int32).toInt = 0 := rfl
  exact lp_1 _ x 0 _ _ ls (Nat.lt_succ_self _) (by omega) (lv_sub hl [0, 1, 2, 3, 4] rfl) hH hS
set_option maxHeartbeats 2000000 in
set_option maxRecDepth 100000 in
theorem m_isNumber (l : Launch) (D : va_G) (g : Nat → Nat) (ka : Nat → ClassId) (ad : Nat → Nat) (i : Nat → Nat → Int32) (r : Nat → Nat → Nat) (L : Nat → Nat → Int64) (d : Nat → Nat → UInt64) (x : Int32) (hO : OkI i) (hR : RS r) (sz : Nat)  : Met l yX12_isNumber wsX12_isNumber ({ frames := 0, cells := 0, slots := 0, locals := 0 }) (va_Pc [.ref (g 36), .int x] (sj_B D (hwc g ka i r L d) (hT ka) sz (gx ad (va_A (hwc g ka i r L d) sz)))) (sj_Qi (S := Unit) D (fun v u => ((0 : Int) ≤ v.toInt ∧ v.toInt ≤ 1) ∧ ((v.toInt = 1 → nuA i x.toInt))) (fun _ => hwc g ka i r L d) (fun _ => []) (va_A (hwc g ka i r L d) sz)) 0 0 (va_A (hwc g ka i r L d) sz) := by
  refine x_met (Ex := gx ad) (cc := cX12_isNumber) (maxL := 2) (ret := (some .boolean)) (by decide) rfl (Nat.le_of_ble_eq_true rfl) ?_
  intro p e s m below meth c A ls hx hb hr hml hts hown hlocks hA hS hH hK hE hl
  have hown : s.vm.findClass RX12 = some m.cls := hown
  have in12 : ∀ w ∈ wsX120, w ∈ wsX12_isNumber := (fun _ h => (List.mem_cons_of_mem _ (List.mem_append_right _ h)))
  have wd0 := hts (.fieldLink RX12 348 "StoryDeskModel" "arguments" "I") (List.mem_cons_of_mem _ (List.mem_append_left _ lm0))
  have wd1 := hts (.fieldLink RX12 351 "StoryDeskModel" "argumentKind" "[C") (List.mem_cons_of_mem _ (List.mem_append_left _ lm1))
  have hl : lv_has ls 2 [(0, .ref (g 36)), (1, .int x)] := hl
  have hK : va_K D vwCl (hT ka) s := hK
  have hg_1 := s_rng x
  have hb57 : (0 : Int) ≤ (i 36 57).toInt ∧ (i 36 57).toInt ≤ 6 := hO 36 57
  refine lv_iload_n hx hb dX12_isNumber_0 rfl (lv_at hl 1 rfl) ?_
  refine lv_if_lt (tgt := 38) hx hb dX12_isNumber_1 (by decide) (fun c_2 => ?_) (fun c_2 => ?_)
  · skip
    have h_3 := s_lt (rfl : x.toInt = _) (show (0 : Int32).toInt = 0 from rfl) c_2
    refine lv_iconst (v := 0) hx hb dX12_isNumber_38 (by decide) ?_
    have hV_4 : ((0 : Int32).toInt = 1 → nuA i x.toInt) := (fun q => absurd q (by decide))
    exact sj_zret hx hb hr hlocks (by decide +kernel) hS () ⟨⟨by decide, by decide⟩, hV_4⟩ hH (sj_Knil hK) (Nat.le_of_ble_eq_true rfl) (Nat.le_of_ble_eq_true rfl) dX12_isNumber_39
  · skip
    have h_5 := s_nlt (rfl : x.toInt = _) (show (0 : Int32).toInt = 0 from rfl) c_2
    refine lv_iload_n hx hb dX12_isNumber_4 rfl (lv_at hl 1 rfl) ?_
    refine lv_aload_n hx hb dX12_isNumber_5 rfl (lv_at hl 0 rfl) ?_
    have bx_6 : (0 : Int) ≤ (i 36 57).toInt ∧ (i 36 57).toInt ≤ 6 := hO 36 57
    refine h_geti (ci := 12) (C := RX12) (F := TX12) (N := 86) hx hb hts in12 hown hK hH (by decide) (rfl : kd 36 = 12) (by decide) rfl 57 (by decide) wd0 (fun _ h9 => h9) (by decide) rfl dX12_isNumber_6 ?_
    refine lv_icmp_ge (tgt := 38) hx hb dX12_isNumber_9 (by decide) (fun c_7 => ?_) (fun c_7 => ?_)
    · skip
      have h_8 := s_le (rfl : (i 36 57).toInt = _) (rfl : x.toInt = _) c_7
      refine lv_iconst (v := 0) hx hb dX12_isNumber_38 (by decide) ?_
      have hV_9 : ((0 : Int32).toInt = 1 → nuA i x.toInt) := (fun q => absurd q (by decide))
      exact sj_zret hx hb hr hlocks (by decide +kernel) hS () ⟨⟨by decide, by decide⟩, hV_9⟩ hH (sj_Knil hK) (Nat.le_of_ble_eq_true rfl) (Nat.le_of_ble_eq_true rfl) dX12_isNumber_39
    · skip
      have h_10 := s_nle (rfl : (i 36 57).toInt = _) (rfl : x.toInt = _) c_7
      refine lv_aload_n hx hb dX12_isNumber_12 rfl (lv_at hl 0 rfl) ?_
      refine h_getr (ci := 12) (C := RX12) (F := TX12) (N := 86) hx hb hts in12 hown hK hH (by decide) (rfl : kd 36 = 12) (by decide) rfl 58 (by decide) wd1 (fun _ h9 => h9) (by decide) rfl (t := 413) (hR 36 58 rfl) (by decide) dX12_isNumber_13 ?_
      refine lv_iload_n hx hb dX12_isNumber_16 rfl (lv_at hl 1 rfl) ?_
      have bx_11 : (0 : Int) ≤ (i 413 (x.toInt).toNat).toInt ∧ (i 413 (x.toInt).toNat).toInt ≤ 65535 := hO 413 (x.toInt).toNat
      refine h_cald hx hb hK hH (by decide) (rfl : kd 413 = 14) (s_vin (N := 6) (rfl : x.toInt = _) (rfl : ln 413 = 6) (by omega) (by omega)) dX12_isNumber_17 ?_
      have ek_12 : x.toNatClampNeg = (x.toInt).toNat := (s_cl (show x.toInt = x.toInt by omega))
      refine sj_i (y := (i 413 (x.toInt).toNat)) (by rw [ek_12]) ?_
      refine lv_bipush (v := 105) hx hb dX12_isNumber_18 (by decide) ?_
      refine lv_icmp_eq (tgt := 34) hx hb dX12_isNumber_20 (by decide) (fun c_13 => ?_) (fun c_13 => ?_)
      · skip
        have h_14 := s_eq (rfl : (i 413 (x.toInt).toNat).toInt = _) (show (105 : Int32).toInt = 105 from rfl) c_13
        refine lv_iconst (v := 1) hx hb dX12_isNumber_34 (by decide) ?_
        refine lv_goto (tgt := 39) hx hb dX12_isNumber_35 (by decide) ?_
        have hV_15 : ((1 : Int32).toInt = 1 → nuA i x.toInt) := (fun _ => ⟨by omega, by omega, by omega⟩)
        exact sj_zret hx hb hr hlocks (by decide +kernel) hS () ⟨⟨by decide, by decide⟩, hV_15⟩ hH (sj_Knil hK) (Nat.le_of_ble_eq_true rfl) (Nat.le_of_ble_eq_true rfl) dX12_isNumber_39
      · skip
        have h_16 := s_ne (rfl : (i 413 (x.toInt).toNat).toInt = _) (show (105 : Int32).toInt = 105 from rfl) c_13
        refine lv_aload_n hx hb dX12_isNumber_23 rfl (lv_at hl 0 rfl) ?_
        refine h_getr (ci := 12) (C := RX12) (F := TX12) (N := 86) hx hb hts in12 hown hK hH (by decide) (rfl : kd 36 = 12) (by decide) rfl 58 (by decide) wd1 (fun _ h9 => h9) (by decide) rfl (t := 413) (hR 36 58 rfl) (by decide) dX12_isNumber_24 ?_
        refine lv_iload_n hx hb dX12_isNumber_27 rfl (lv_at hl 1 rfl) ?_
        refine h_cald hx hb hK hH (by decide) (rfl : kd 413 = 14) (s_vin (N := 6) (rfl : x.toInt = _) (rfl : ln 413 = 6) (by omega) (by omega)) dX12_isNumber_28 ?_
        have ek_17 : x.toNatClampNeg = (x.toInt).toNat := (s_cl (show x.toInt = x.toInt by omega))
        refine sj_i (y := (i 413 (x.toInt).toNat)) (by rw [ek_17]) ?_
        refine lv_bipush (v := 100) hx hb dX12_isNumber_29 (by decide) ?_
        refine lv_icmp_ne (tgt := 38) hx hb dX12_isNumber_31 (by decide) (fun c_18 => ?_) (fun c_18 => ?_)
        · skip
          have h_19 := s_ne (rfl : (i 413 (x.toInt).toNat).toInt = _) (show (100 : Int32).toInt = 100 from rfl) c_18
          refine lv_iconst (v := 0) hx hb dX12_isNumber_38 (by decide) ?_
          have hV_20 : ((0 : Int32).toInt = 1 → nuA i x.toInt) := (fun q => absurd q (by decide))
          exact sj_zret hx hb hr hlocks (by decide +kernel) hS () ⟨⟨by decide, by decide⟩, hV_20⟩ hH (sj_Knil hK) (Nat.le_of_ble_eq_true rfl) (Nat.le_of_ble_eq_true rfl) dX12_isNumber_39
        · skip
          have h_21 := s_eq (rfl : (i 413 (x.toInt).toNat).toInt = _) (show (100 : Int32).toInt = 100 from rfl) c_18
          refine lv_iconst (v := 1) hx hb dX12_isNumber_34 (by decide) ?_
          refine lv_goto (tgt := 39) hx hb dX12_isNumber_35 (by decide) ?_
          have hV_22 : ((1 : Int32).toInt = 1 → nuA i x.toInt) := (fun _ => ⟨by omega, by omega, by omega⟩)
          exact sj_zret hx hb hr hlocks (by decide +kernel) hS () ⟨⟨by decide, by decide⟩, hV_22⟩ hH (sj_Knil hK) (Nat.le_of_ble_eq_true rfl) (Nat.le_of_ble_eq_true rfl) dX12_isNumber_39
set_option maxHeartbeats 2000000 in
set_option maxRecDepth 100000 in
theorem m_argValue (l : Launch) (D : va_G) (g : Nat → Nat) (ka : Nat → ClassId) (ad : Nat → Nat) (i : Nat → Nat → Int32) (r : Nat → Nat → Nat) (L : Nat → Nat → Int64) (d : Nat → Nat → UInt64) (x : Int32) (hO : OkI i) (hR : RS r) (sz : Nat) (haq : AQ i (bfL i)) (hnu : nuA i x.toInt) : Met l yX12_argumentValue wsX12_argumentValue ({ frames := 1, cells := 0, slots := 0, locals := 24 }) (va_Pc [.ref (g 36), .int x] (sj_B D (hwc g ka i r L d) (hT ka) sz (gx ad (va_A (hwc g ka i r L d) sz)))) (sj_Qd (S := Unit) D (fun v u => (dfin v)) (fun _ => hwc g ka i r L d) (fun _ => []) (va_A (hwc g ka i r L d) sz)) 0 0 (va_A (hwc g ka i r L d) sz) := by
  refine x_met (Ex := gx ad) (cc := cX12_argumentValue) (maxL := 5) (ret := (some .double)) (by decide) rfl (Nat.le_of_ble_eq_true rfl) ?_
  intro p e s m below meth c A ls hx hb hr hml hts hown hlocks hA hS hH hK hE hl
  have hown : s.vm.findClass RX12 = some m.cls := hown
  have in12 : ∀ w ∈ wsX120, w ∈ wsX12_argumentValue := (fun _ h => (List.mem_cons_of_mem _ (List.mem_append_right _ h)))
  have wd0 := hts (.fieldLink RX12 354 "StoryDeskModel" "argumentFrom" "[I") (List.mem_cons_of_mem _ (List.mem_append_left _ lm0))
  have wd1 := hts (.fieldLink RX12 357 "StoryDeskModel" "argumentTo" "[I") (List.mem_cons_of_mem _ (List.mem_append_left _ lm1))
  have wd2 := hts (.fieldLink RX12 351 "StoryDeskModel" "argumentKind" "[C") (List.mem_cons_of_mem _ (List.mem_append_left _ lm2))
  have wd3 := hts (.fieldLink RX12 227 "StoryDeskModel" "buffer" "[C") (List.mem_cons_of_mem _ (List.mem_append_left _ lm3))
  have wd4 := hts (.constantDouble RX12 440 (4652007308841189376)) (List.mem_cons_of_mem _ (List.mem_append_left _ lm6))
  have wd5 := hts (.constantDouble RX12 438 (4636737291354636288)) (List.mem_cons_of_mem _ (List.mem_append_left _ lm5))
  have wd6 := hts (.constantDouble RX12 436 (4621819117588971520)) (List.mem_cons_of_mem _ (List.mem_append_left _ lm4))
  have hl : lv_has ls 5 [(0, .ref (g 36)), (1, .int x)] := hl
  have hK : va_K D vwCl (hT ka) s := hK
  have hg_1 := s_rng x
  have hb57 : (0 : Int) ≤ (i 36 57).toInt ∧ (i 36 57).toInt ≤ 6 := hO 36 57
  have hnu0 := hnu.1
  have hnu1 := hnu.2.1
  have hax := AQ_n haq hnu
  refine lv_aload_n hx hb dX12_argumentValue_0 rfl (lv_at hl 0 rfl) ?_
  refine lv_aload_n hx hb dX12_argumentValue_1 rfl (lv_at hl 0 rfl) ?_
  refine h_getr (ci := 12) (C := RX12) (F := TX12) (N := 86) hx hb hts in12 hown hK hH (by decide) (rfl : kd 36 = 12) (by decide) rfl 59 (by decide) wd0 (fun _ h9 => h9) (by decide) rfl (t := 414) (hR 36 59 rfl) (by decide) dX12_argumentValue_2 ?_
  refine lv_iload_n hx hb dX12_argumentValue_5 rfl (lv_at hl 1 rfl) ?_
  have bx_2 : (0 : Int) ≤ (i 414 (x.toInt).toNat).toInt ∧ (i 414 (x.toInt).toNat).toInt ≤ 61 := hO 414 (x.toInt).toNat
  refine h_iald hx hb hK hH (by decide) (rfl : kd 414 = 13) (s_vin (N := 6) (rfl : x.toInt = _) (rfl : ln 414 = 6) (by omega) (by omega)) dX12_argumentValue_6 ?_
  have ek_3 : x.toNatClampNeg = (x.toInt).toNat := (s_cl (show x.toInt = x.toInt by omega))
  refine sj_i (y := (i 414 (x.toInt).toNat)) (by rw [ek_3]) ?_
  refine lv_aload_n hx hb dX12_argumentValue_7 rfl (lv_at hl 0 rfl) ?_
  refine h_getr (ci := 12) (C := RX12) (F := TX12) (N := 86) hx hb hts in12 hown hK hH (by decide) (rfl : kd 36 = 12) (by decide) rfl 60 (by decide) wd1 (fun _ h9 => h9) (by decide) rfl (t := 415) (hR 36 60 rfl) (by decide) dX12_argumentValue_8 ?_
  refine lv_iload_n hx hb dX12_argumentValue_11 rfl (lv_at hl 1 rfl) ?_
  have bx_4 : (-1 : Int) ≤ (i 415 (x.toInt).toNat).toInt ∧ (i 415 (x.toInt).toNat).toInt ≤ 61 := hO 415 (x.toInt).toNat
  refine h_iald hx hb hK hH (by decide) (rfl : kd 415 = 13) (s_vin (N := 6) (rfl : x.toInt = _) (rfl : ln 415 = 6) (by omega) (by omega)) dX12_argumentValue_12 ?_
  have ek_5 : x.toNatClampNeg = (x.toInt).toNat := (s_cl (show x.toInt = x.toInt by omega))
  refine sj_i (y := (i 415 (x.toInt).toNat)) (by rw [ek_5]) ?_
  refine x_calli (va_runV (As := [.int (i 414 (x.toInt).toNat), .int (i 415 (x.toInt).toNat)]) (rest := []) ⟨hx, hb, hml, hown, hts⟩ (m_whole l D g ka ad i r L d (i 414 (x.toInt).toNat) (i 415 (x.toInt).toNat) hO hR s.heap.size (by first | omega | decide) (by first | omega | decide) (by first | omega | decide)) (cwV 2 hts gX12_argumentValue_X12_whole rfl rfl rfl (by decide +kernel) ⟨(Nat.le_of_ble_eq_true rfl), (Nat.le_of_ble_eq_true rfl)⟩) (x_preV (q := (RX12, TX12, 86)) hH hK (q_obj (by decide) (rfl : kd 36 = 12) (by decide)) rfl gxb (gxw hE hS (x_F hH hS hA))) rfl rfl hl.1 rfl (lv_room (Nat.le_of_ble_eq_true rfl)) dX12_argumentValue_13 ⟨(Nat.le_of_ble_eq_true rfl), (Nat.le_of_ble_eq_true rfl)⟩) hH hS hA rfl rfl (fun r_6 _ H locs hw_7 hH hS => ?_)
  refine lv_i2d hx hb dX12_argumentValue_16 ?_
  refine lv_topd (fun z_9 ez_9 => ?_)
  refine lv_dstore_n (lv' := [(2, .double z_9), (0, .ref (g 36)), (1, .int x)]) hx hb dX12_argumentValue_17 rfl hl (by decide) rfl (fun ls hl => ?_)
  refine lv_aload_n hx hb dX12_argumentValue_18 rfl (lv_at hl 1 rfl) ?_
  refine h_getr (ci := 12) (C := RX12) (F := TX12) (N := 86) hx hb hts in12 hown hK hH (by decide) (rfl : kd 36 = 12) (by decide) rfl 58 (by decide) wd2 (fun _ h9 => h9) (by decide) rfl (t := 413) (hR 36 58 rfl) (by decide) dX12_argumentValue_19 ?_
  refine lv_iload_n hx hb dX12_argumentValue_22 rfl (lv_at hl 2 rfl) ?_
  have bx_10 : (0 : Int) ≤ (i 413 (x.toInt).toNat).toInt ∧ (i 413 (x.toInt).toNat).toInt ≤ 65535 := hO 413 (x.toInt).toNat
  refine h_cald hx hb hK hH (by decide) (rfl : kd 413 = 14) (s_vin (N := 6) (rfl : x.toInt = _) (rfl : ln 413 = 6) (by omega) (by omega)) dX12_argumentValue_23 ?_
  have ek_11 : x.toNatClampNeg = (x.toInt).toNat := (s_cl (show x.toInt = x.toInt by omega))
  refine sj_i (y := (i 413 (x.toInt).toNat)) (by rw [ek_11]) ?_
  refine lv_bipush (v := 105) hx hb dX12_argumentValue_24 (by decide) ?_
  refine lv_icmp_ne (tgt := 31) hx hb dX12_argumentValue_26 (by decide) (fun c_12 => ?_) (fun c_12 => ?_)
  · skip
    have h_13 := s_ne (rfl : (i 413 (x.toInt).toNat).toInt = _) (show (105 : Int32).toInt = 105 from rfl) c_12
    obtain ⟨jd, hjd0, hjd1, hjd2⟩ := AQ_d haq hnu (by omega)
    refine lv_iconst (v := 0) hx hb dX12_argumentValue_31 (by decide) ?_
    refine lv_istore (lv' := [(4, .int 0), (2, .double z_9), (0, .ref (g 36)), (1, .int x)]) hx hb dX12_argumentValue_32 hl (by decide) rfl (fun ls hl => ?_)
    -- loop at 34
    have lp_14 : ∀ (fuel_lp_14 : Nat) (f : Int32) (H : Heap) (locs : List Loc) (ls : Array Slot), (61 - f.toInt).toNat < fuel_lp_14 → (0 : Int) ≤ f.toInt ∧ f.toInt ≤ 60 → f.toInt ≤ (i 415 x.toInt.toNat).toInt - 1 - (jd : Int) → lv_has ls 5 [(4, .int f), (2, .double z_9), (0, .ref (g 36)), (1, .int x)] → sj_H D A (hwc g ka i r L d) H → va_S A s.heap H locs → W p l e (headSpec wsX12_argumentValue ({ frames := 1, cells := 0, slots := 0, locals := 24 })).room s m ([.ref (g 36), .int x] : List Value).toArray below meth c H locs 0 0 (MQ below (sj_Qd (S := Unit) D (fun v u => (dfin v)) (fun _ => hwc g ka i r L d) (fun _ => []) A) ([.ref (g 36), .int x] : List Value).toArray s 0 0 A) (F0 m 34 ls []) := by
      intro fuel_lp_14
      induction fuel_lp_14 with
      | zero => intros; omega
      | succ fuel_lp_14 ih_lp_14 =>
        intro f H locs ls hm hr_f hi_lp_14_0 hl hH hS
        refine lv_aload_n hx hb dX12_argumentValue_34 rfl (lv_at hl 2 rfl) ?_
        refine h_getr (ci := 12) (C := RX12) (F := TX12) (N := 86) hx hb hts in12 hown hK hH (by decide) (rfl : kd 36 = 12) (by decide) rfl 39 (by decide) wd3 (fun _ h9 => h9) (by decide) rfl (t := 402) (hR 36 39 rfl) (by decide) dX12_argumentValue_35 ?_
        refine lv_aload_n hx hb dX12_argumentValue_38 rfl (lv_at hl 2 rfl) ?_
        refine h_getr (ci := 12) (C := RX12) (F := TX12) (N := 86) hx hb hts in12 hown hK hH (by decide) (rfl : kd 36 = 12) (by decide) rfl 60 (by decide) wd1 (fun _ h9 => h9) (by decide) rfl (t := 415) (hR 36 60 rfl) (by decide) dX12_argumentValue_39 ?_
        refine lv_iload_n hx hb dX12_argumentValue_42 rfl (lv_at hl 3 rfl) ?_
        refine h_iald hx hb hK hH (by decide) (rfl : kd 415 = 13) (s_vin (N := 6) (rfl : x.toInt = _) (rfl : ln 415 = 6) (by omega) (by omega)) dX12_argumentValue_43 ?_
        have ek_15 : x.toNatClampNeg = (x.toInt).toNat := (s_cl (show x.toInt = x.toInt by omega))
        refine sj_i (y := (i 415 (x.toInt).toNat)) (by rw [ek_15]) ?_
        refine lv_iconst (v := 1) hx hb dX12_argumentValue_44 (by decide) ?_
        refine lv_isub hx hb dX12_argumentValue_45 ?_
        obtain ⟨z_16, ez_16, hz_16⟩ := s_sub (rfl : (i 415 (x.toInt).toNat).toInt = _) (show (1 : Int32).toInt = 1 from rfl) (by omega) (by omega)
        refine sj_i ez_16 ?_
        refine lv_iload hx hb dX12_argumentValue_46 (lv_at hl 0 rfl) ?_
        refine lv_isub hx hb dX12_argumentValue_48 ?_
        obtain ⟨z_17, ez_17, hz_17⟩ := s_sub (rfl : z_16.toInt = _) (rfl : f.toInt = _) (by omega) (by omega)
        refine sj_i ez_17 ?_
        have bx_18 : (0 : Int) ≤ (i 402 ((i 415 (x.toInt).toNat).toInt - f.toInt - 1).toNat).toInt ∧ (i 402 ((i 415 (x.toInt).toNat).toInt - f.toInt - 1).toNat).toInt ≤ 65535 := hO 402 ((i 415 (x.toInt).toNat).toInt - f.toInt - 1).toNat
        refine h_cald hx hb hK hH (by decide) (rfl : kd 402 = 14) (s_vin (N := 60) (rfl : z_17.toInt = _) (rfl : ln 402 = 60) (by omega) (by omega)) dX12_argumentValue_49 ?_
        have ek_19 : z_17.toNatClampNeg = ((i 415 (x.toInt).toNat).toInt - f.toInt - 1).toNat := (s_cl (show z_17.toInt = (i 415 (x.toInt).toNat).toInt - f.toInt - 1 by omega))
        refine sj_i (y := (i 402 ((i 415 (x.toInt).toNat).toInt - f.toInt - 1).toNat)) (by rw [ek_19]) ?_
        refine lv_bipush (v := 46) hx hb dX12_argumentValue_50 (by decide) ?_
        refine lv_icmp_eq (tgt := 61) hx hb dX12_argumentValue_52 (by decide) (fun c_20 => ?_) (fun c_20 => ?_)
        · skip
          have h_21 := s_eq (rfl : (i 402 ((i 415 (x.toInt).toNat).toInt - f.toInt - 1).toNat).toInt = _) (show (46 : Int32).toInt = 46 from rfl) c_20
          refine lv_dload_n hx hb dX12_argumentValue_61 rfl (lv_at hl 1 rfl) ?_
          refine lv_iload hx hb dX12_argumentValue_62 (lv_at hl 0 rfl) ?_
          refine lv_iconst (v := 1) hx hb dX12_argumentValue_64 (by decide) ?_
          refine lv_icmp_ne (tgt := 74) hx hb dX12_argumentValue_65 (by decide) (fun c_22 => ?_) (fun c_22 => ?_)
          · skip
            have h_23 := s_ne (rfl : f.toInt = _) (show (1 : Int32).toInt = 1 from rfl) c_22
            refine lv_iload hx hb dX12_argumentValue_74 (lv_at hl 0 rfl) ?_
            refine lv_iconst (v := 2) hx hb dX12_argumentValue_76 (by decide) ?_
            refine lv_icmp_ne (tgt := 86) hx hb dX12_argumentValue_77 (by decide) (fun c_24 => ?_) (fun c_24 => ?_)
            · skip
              have h_25 := s_ne (rfl : f.toInt = _) (show (2 : Int32).toInt = 2 from rfl) c_24
              refine lv_ldc2d hx hb hown wd4 dX12_argumentValue_86 ?_
              have hq : dfin (FP.ddiv z_9 4652007308841189376) := by rw [ez_9]; exact div_fin (show dok (4652007308841189376 : UInt64) = true by decide +kernel)
              refine lv_ddiv hx hb dX12_argumentValue_89 (dfin_n hq) ?_
              refine lv_topd (fun z_26 ez_26 => ?_)
              exact sj_dret hx hb hr hlocks hS () (by rw [ez_26]; exact hq) hH (sj_Knil hK) (Nat.le_of_ble_eq_true rfl) (Nat.le_of_ble_eq_true rfl) dX12_argumentValue_90
            · skip
              have h_27 := s_eq (rfl : f.toInt = _) (show (2 : Int32).toInt = 2 from rfl) c_24
              refine lv_ldc2d hx hb hown wd5 dX12_argumentValue_80 ?_
              refine lv_goto (tgt := 89) hx hb dX12_argumentValue_83 (by decide) ?_
              have hq : dfin (FP.ddiv z_9 4636737291354636288) := by rw [ez_9]; exact div_fin (show dok (4636737291354636288 : UInt64) = true by decide +kernel)
              refine lv_ddiv hx hb dX12_argumentValue_89 (dfin_n hq) ?_
              refine lv_topd (fun z_28 ez_28 => ?_)
              exact sj_dret hx hb hr hlocks hS () (by rw [ez_28]; exact hq) hH (sj_Knil hK) (Nat.le_of_ble_eq_true rfl) (Nat.le_of_ble_eq_true rfl) dX12_argumentValue_90
          · skip
            have h_29 := s_eq (rfl : f.toInt = _) (show (1 : Int32).toInt = 1 from rfl) c_22
            refine lv_ldc2d hx hb hown wd6 dX12_argumentValue_68 ?_
            refine lv_goto (tgt := 89) hx hb dX12_argumentValue_71 (by decide) ?_
            have hq : dfin (FP.ddiv z_9 4621819117588971520) := by rw [ez_9]; exact div_fin (show dok (4621819117588971520 : UInt64) = true by decide +kernel)
            refine lv_ddiv hx hb dX12_argumentValue_89 (dfin_n hq) ?_
            refine lv_topd (fun z_30 ez_30 => ?_)
            exact sj_dret hx hb hr hlocks hS () (by rw [ez_30]; exact hq) hH (sj_Knil hK) (Nat.le_of_ble_eq_true rfl) (Nat.le_of_ble_eq_true rfl) dX12_argumentValue_90
        · skip
          have h_31 := s_ne (rfl : (i 402 ((i 415 (x.toInt).toNat).toInt - f.toInt - 1).toNat).toInt = _) (show (46 : Int32).toInt = 46 from rfl) c_20
          obtain ⟨z_32, ez_32, hz_32⟩ := s_add (rfl : f.toInt = _) (show (1 : Int32).toInt = 1 from rfl) (by omega) (by omega)
          refine lv_iinc (v := z_32) (lv' := [(4, .int z_32), (2, .double z_9), (0, .ref (g 36)), (1, .int x)]) hx hb dX12_argumentValue_55 hl (k := 0) rfl ez_32 (by decide) rfl (fun ls hl => ?_)
          refine lv_goto (tgt := 34) hx hb dX12_argumentValue_58 (by decide) ?_
          exact ih_lp_14 z_32 _ _ ls (by omega) (by have h9 := jne (k := (i 415 (x.toInt).toNat).toInt - f.toInt - 1) hjd2 (by omega); omega) (by have h9 := jne (k := (i 415 (x.toInt).toNat).toInt - f.toInt - 1) hjd2 (by omega); omega) (lv_sub hl [0, 1, 2, 3] rfl) hH hS
    have hl_33 : (0 : Int32).toInt = 0 := rfl
    exact lp_14 _ 0 _ _ ls (Nat.lt_succ_self _) (by have h9 : (0 : Int32).toInt = 0 := rfl; omega) (by have h9 : (0 : Int32).toInt = 0 := rfl; omega) (lv_sub hl [0, 1, 2, 3] rfl) hH hS
  · skip
    have h_34 := s_eq (rfl : (i 413 (x.toInt).toNat).toInt = _) (show (105 : Int32).toInt = 105 from rfl) c_12
    refine lv_dload_n hx hb dX12_argumentValue_29 rfl (lv_at hl 0 rfl) ?_
    exact sj_dret hx hb hr hlocks hS () (by rw [ez_9]; exact i2d_f _) hH (sj_Knil hK) (Nat.le_of_ble_eq_true rfl) (Nat.le_of_ble_eq_true rfl) dX12_argumentValue_30
