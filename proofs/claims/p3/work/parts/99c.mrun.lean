theorem tgHM_fr {i u : Nat → Nat → Int32} {t : Nat} (e6 : u 416 = i 416) (e7 : u 417 = i 417) (y : Int32) : tgHM u t y = tgHM i t y := by unfold tgHM tgLM; rw [e6, e7]
/-- a hook that runs before (1) or after (0) a case with these tags -/
def mdue (i : Nat → Nat → Int32) (b : Int) (x : Int32) (h : Nat) : Bool := decide ((h : Int) < (i 36 67).toInt) && (decide ((i 420 h).toInt = b) && tgHM i h x)
theorem mdue_n1 {i : Nat → Nat → Int32} {b : Int} {x : Int32} {h : Nat} (g : (i 36 67).toInt ≤ (h : Int)) : mdue i b x h = false := by
  unfold mdue; rw [decide_eq_false (by omega)]; rfl
theorem mdue_n2 {i : Nat → Nat → Int32} {b : Int} {x : Int32} {h : Nat} (g : (i 420 h).toInt ≠ b) : mdue i b x h = false := by
  unfold mdue; rw [decide_eq_false g]; simp
theorem mdue_v {i : Nat → Nat → Int32} {b : Int} {x : Int32} {h : Nat} (g : (i 420 h).toInt = b) (hh : (h : Int) < (i 36 67).toInt) : mdue i b x h = tgHM i h x := by
  unfold mdue; rw [decide_eq_true hh, decide_eq_true g]; simp
def b01 (b : Bool) : Int := if b = true then 1 else 0
/-- a case that the filter lets through -/
def mcw (i : Nat → Nat → Int32) (k : Nat) : Bool := tgHM i 8 (i 400 k)
def skD (P : Nat → Bool) (a b : Int) : Prop := a ≤ b ∧ ∀ k : Nat, a ≤ (k : Int) → (k : Int) < b → P k = false
def skE (P : Nat → Bool) (b n : Int) : Prop := b < n → P b.toNat = true
theorem skD_0 {P : Nat → Bool} {a b : Int} (h : b = a) : skD P a b := ⟨by omega, fun k h1 h2 => by omega⟩
theorem skD_s {P : Nat → Bool} {a b c : Int} (h : skD P a b) (h0 : 0 ≤ b) (hc : c = b + 1) (hp : P b.toNat = false) : skD P a c := ⟨by have := h.1; omega, fun k h1 h2 => by
  by_cases q : (k : Int) < b
  · exact h.2 k h1 q
  · rw [show k = b.toNat by omega]; exact hp⟩
theorem b01_or {b : Bool} {v : Int} (h : v = (if b = true then 1 else 0)) : (v = 1 ∧ b = true) ∨ (v = 0 ∧ b = false) := by
  cases b
  · exact Or.inr ⟨h, rfl⟩
  · exact Or.inl ⟨h, rfl⟩
theorem dX12_due_0 : decode cX12_due 0 = .ok (.iload_n 1, 1) := by decide +kernel
theorem dX12_due_1 : decode cX12_due 1 = .ok (.aload_n 0, 1) := by decide +kernel
theorem dX12_due_2 : decode cX12_due 2 = .ok (.getfield 404, 3) := by decide +kernel
theorem dX12_due_5 : decode cX12_due 5 = .ok (.if_icmp .ge 31, 3) := by decide +kernel
theorem dX12_due_36 : decode cX12_due 36 = .ok (.iconst 0, 1) := by decide +kernel
theorem dX12_due_37 : decode cX12_due 37 = .ok (.ireturn, 1) := by decide +kernel
theorem dX12_due_8 : decode cX12_due 8 = .ok (.aload_n 0, 1) := by decide +kernel
theorem dX12_due_9 : decode cX12_due 9 = .ok (.getfield 411, 3) := by decide +kernel
theorem dX12_due_12 : decode cX12_due 12 = .ok (.iload_n 1, 1) := by decide +kernel
theorem dX12_due_13 : decode cX12_due 13 = .ok (.baload, 1) := by decide +kernel
theorem dX12_due_14 : decode cX12_due 14 = .ok (.iload_n 2, 1) := by decide +kernel
theorem dX12_due_15 : decode cX12_due 15 = .ok (.if_icmp .ne 21, 3) := by decide +kernel
theorem dX12_due_18 : decode cX12_due 18 = .ok (.aload_n 0, 1) := by decide +kernel
theorem dX12_due_19 : decode cX12_due 19 = .ok (.iload_n 1, 1) := by decide +kernel
theorem dX12_due_20 : decode cX12_due 20 = .ok (.aload_n 0, 1) := by decide +kernel
theorem dX12_due_21 : decode cX12_due 21 = .ok (.getfield 204, 3) := by decide +kernel
theorem dX12_due_24 : decode cX12_due 24 = .ok (.iload_n 3, 1) := by decide +kernel
theorem dX12_due_25 : decode cX12_due 25 = .ok (.iaload, 1) := by decide +kernel
theorem dX12_due_26 : decode cX12_due 26 = .ok (.invokevirtual 418, 3) := by decide +kernel
theorem dX12_due_29 : decode cX12_due 29 = .ok (.ifCond .eq 7, 3) := by decide +kernel
theorem dX12_due_32 : decode cX12_due 32 = .ok (.iconst 1, 1) := by decide +kernel
theorem dX12_due_33 : decode cX12_due 33 = .ok (.goto 4, 3) := by decide +kernel
theorem dX12_seek_0 : decode cX12_seek 0 = .ok (.aload_n 0, 1) := by decide +kernel
theorem dX12_seek_1 : decode cX12_seek 1 = .ok (.getfield 504, 3) := by decide +kernel
theorem dX12_seek_4 : decode cX12_seek 4 = .ok (.aload_n 0, 1) := by decide +kernel
theorem dX12_seek_5 : decode cX12_seek 5 = .ok (.getfield 165, 3) := by decide +kernel
theorem dX12_seek_8 : decode cX12_seek 8 = .ok (.if_icmp .ge 34, 3) := by decide +kernel
theorem dX12_seek_42 : decode cX12_seek 42 = .ok (.return_, 1) := by decide +kernel
theorem dX12_seek_11 : decode cX12_seek 11 = .ok (.aload_n 0, 1) := by decide +kernel
theorem dX12_seek_12 : decode cX12_seek 12 = .ok (.bipush 8, 2) := by decide +kernel
theorem dX12_seek_14 : decode cX12_seek 14 = .ok (.aload_n 0, 1) := by decide +kernel
theorem dX12_seek_15 : decode cX12_seek 15 = .ok (.getfield 204, 3) := by decide +kernel
theorem dX12_seek_18 : decode cX12_seek 18 = .ok (.aload_n 0, 1) := by decide +kernel
theorem dX12_seek_19 : decode cX12_seek 19 = .ok (.getfield 504, 3) := by decide +kernel
theorem dX12_seek_22 : decode cX12_seek 22 = .ok (.iaload, 1) := by decide +kernel
theorem dX12_seek_23 : decode cX12_seek 23 = .ok (.invokevirtual 418, 3) := by decide +kernel
theorem dX12_seek_26 : decode cX12_seek 26 = .ok (.ifCond .ne 16, 3) := by decide +kernel
theorem dX12_seek_29 : decode cX12_seek 29 = .ok (.aload_n 0, 1) := by decide +kernel
theorem dX12_seek_30 : decode cX12_seek 30 = .ok (.dup, 1) := by decide +kernel
theorem dX12_seek_31 : decode cX12_seek 31 = .ok (.getfield 504, 3) := by decide +kernel
theorem dX12_seek_34 : decode cX12_seek 34 = .ok (.iconst 1, 1) := by decide +kernel
theorem dX12_seek_35 : decode cX12_seek 35 = .ok (.iadd, 1) := by decide +kernel
theorem dX12_seek_36 : decode cX12_seek 36 = .ok (.putfield 504, 3) := by decide +kernel
theorem dX12_seek_39 : decode cX12_seek 39 = .ok (.goto (-39), 3) := by decide +kernel
theorem gw_X12_holds : wsX12_holds.all goodWord = true := by decide +kernel
theorem gX12_due_X12_holds : GoodIn wsX12_due (wsV RX12 418 RX12 yX12_holds wsX12_holds) := goodIn_app (goodIn_sub (List.forall_mem_cons.mpr ⟨(List.mem_cons_of_mem _ (List.mem_append_left _ (List.mem_append_left _ lm3))), List.forall_mem_cons.mpr ⟨(List.mem_cons_of_mem _ (List.mem_append_left _ (List.mem_append_left _ lm4))), List.forall_mem_cons.mpr ⟨(List.mem_cons_of_mem _ (List.mem_append_left _ (List.mem_append_left _ lm5))), List.forall_mem_cons.mpr ⟨(List.mem_cons_of_mem _ (List.mem_append_left _ (List.mem_append_left _ lm6))), (fun _ h => absurd h List.not_mem_nil)⟩⟩⟩⟩) (by decide +kernel)) (goodIn_sub (by unfold wsX12_holds; exact List.forall_mem_cons.mpr ⟨(List.mem_cons_of_mem _ (List.mem_append_left _ (List.mem_append_left _ lm7))), List.forall_mem_append.mpr ⟨List.forall_mem_append.mpr ⟨List.forall_mem_cons.mpr ⟨(List.mem_cons_of_mem _ (List.mem_append_left _ (List.mem_append_left _ lm8))), List.forall_mem_cons.mpr ⟨(List.mem_cons_of_mem _ (List.mem_append_left _ (List.mem_append_left _ lm9))), List.forall_mem_cons.mpr ⟨(List.mem_cons_of_mem _ (List.mem_append_left _ (List.mem_append_left _ lm10))), List.forall_mem_cons.mpr ⟨(List.mem_cons_of_mem _ (List.mem_append_left _ (List.mem_append_left _ lm11))), List.forall_mem_cons.mpr ⟨(List.mem_cons_of_mem _ (List.mem_append_left _ (List.mem_append_left _ lm12))), List.forall_mem_cons.mpr ⟨(List.mem_cons_of_mem _ (List.mem_append_left _ (List.mem_append_left _ lm6))), List.forall_mem_cons.mpr ⟨(List.mem_cons_of_mem _ (List.mem_append_left _ (List.mem_append_left _ lm13))), List.forall_mem_cons.mpr ⟨(List.mem_cons_of_mem _ (List.mem_append_left _ (List.mem_append_left _ lm14))), List.forall_mem_cons.mpr ⟨(List.mem_cons_of_mem _ (List.mem_append_left _ (List.mem_append_left _ lm15))), List.forall_mem_cons.mpr ⟨(List.mem_cons_of_mem _ (List.mem_append_left _ (List.mem_append_left _ lm16))), List.forall_mem_cons.mpr ⟨(List.mem_cons_of_mem _ (List.mem_append_left _ (List.mem_append_left _ lm17))), List.forall_mem_cons.mpr ⟨(List.mem_cons_of_mem _ (List.mem_append_left _ (List.mem_append_left _ lm18))), List.forall_mem_cons.mpr ⟨(List.mem_cons_of_mem _ (List.mem_append_left _ (List.mem_append_left _ lm19))), List.forall_mem_cons.mpr ⟨(List.mem_cons_of_mem _ (List.mem_append_left _ (List.mem_append_left _ lm20))), List.forall_mem_cons.mpr ⟨(List.mem_cons_of_mem _ (List.mem_append_left _ (List.mem_append_left _ lm21))), List.forall_mem_cons.mpr ⟨(List.mem_cons_of_mem _ (List.mem_append_left _ (List.mem_append_left _ lm22))), List.forall_mem_cons.mpr ⟨(List.mem_cons_of_mem _ (List.mem_append_left _ (List.mem_append_left _ lm23))), List.forall_mem_cons.mpr ⟨(List.mem_cons_of_mem _ (List.mem_append_left _ (List.mem_append_right _ lm0))), List.forall_mem_cons.mpr ⟨(List.mem_cons_of_mem _ (List.mem_append_left _ (List.mem_append_right _ lm1))), List.forall_mem_cons.mpr ⟨(List.mem_cons_of_mem _ (List.mem_append_left _ (List.mem_append_right _ lm2))), List.forall_mem_cons.mpr ⟨(List.mem_cons_of_mem _ (List.mem_append_left _ (List.mem_append_right _ lm3))), List.forall_mem_cons.mpr ⟨(List.mem_cons_of_mem _ (List.mem_append_left _ (List.mem_append_right _ lm4))), List.forall_mem_cons.mpr ⟨(List.mem_cons_of_mem _ (List.mem_append_left _ (List.mem_append_right _ lm5))), List.forall_mem_cons.mpr ⟨(List.mem_cons_of_mem _ (List.mem_append_left _ (List.mem_append_right _ lm6))), (fun _ h => absurd h List.not_mem_nil)⟩⟩⟩⟩⟩⟩⟩⟩⟩⟩⟩⟩⟩⟩⟩⟩⟩⟩⟩⟩⟩⟩⟩⟩, List.forall_mem_cons.mpr ⟨(List.mem_cons_of_mem _ (List.mem_append_left _ (List.mem_append_right _ lm7))), List.forall_mem_cons.mpr ⟨(List.mem_cons_of_mem _ (List.mem_append_left _ (List.mem_append_right _ lm8))), List.forall_mem_cons.mpr ⟨(List.mem_cons_of_mem _ (List.mem_append_left _ (List.mem_append_right _ lm9))), List.forall_mem_cons.mpr ⟨(List.mem_cons_of_mem _ (List.mem_append_left _ (List.mem_append_right _ lm10))), List.forall_mem_cons.mpr ⟨(List.mem_cons_of_mem _ (List.mem_append_left _ (List.mem_append_right _ lm11))), List.forall_mem_cons.mpr ⟨(List.mem_cons_of_mem _ (List.mem_append_left _ (List.mem_append_right _ lm12))), (fun _ h => absurd h List.not_mem_nil)⟩⟩⟩⟩⟩⟩⟩, (fun _ h => (List.mem_cons_of_mem _ (List.mem_append_right _ h)))⟩⟩) gw_X12_holds)
theorem gX12_seek_X12_holds : GoodIn wsX12_seek (wsV RX12 418 RX12 yX12_holds wsX12_holds) := goodIn_app (goodIn_sub (List.forall_mem_cons.mpr ⟨(List.mem_cons_of_mem _ (List.mem_append_left _ (List.mem_append_left _ lm3))), List.forall_mem_cons.mpr ⟨(List.mem_cons_of_mem _ (List.mem_append_left _ (List.mem_append_left _ lm4))), List.forall_mem_cons.mpr ⟨(List.mem_cons_of_mem _ (List.mem_append_left _ (List.mem_append_left _ lm5))), List.forall_mem_cons.mpr ⟨(List.mem_cons_of_mem _ (List.mem_append_left _ (List.mem_append_left _ lm6))), (fun _ h => absurd h List.not_mem_nil)⟩⟩⟩⟩) (by decide +kernel)) (goodIn_sub (by unfold wsX12_holds; exact List.forall_mem_cons.mpr ⟨(List.mem_cons_of_mem _ (List.mem_append_left _ (List.mem_append_left _ lm7))), List.forall_mem_append.mpr ⟨List.forall_mem_append.mpr ⟨List.forall_mem_cons.mpr ⟨(List.mem_cons_of_mem _ (List.mem_append_left _ (List.mem_append_left _ lm8))), List.forall_mem_cons.mpr ⟨(List.mem_cons_of_mem _ (List.mem_append_left _ (List.mem_append_left _ lm9))), List.forall_mem_cons.mpr ⟨(List.mem_cons_of_mem _ (List.mem_append_left _ (List.mem_append_left _ lm10))), List.forall_mem_cons.mpr ⟨(List.mem_cons_of_mem _ (List.mem_append_left _ (List.mem_append_left _ lm11))), List.forall_mem_cons.mpr ⟨(List.mem_cons_of_mem _ (List.mem_append_left _ (List.mem_append_left _ lm12))), List.forall_mem_cons.mpr ⟨(List.mem_cons_of_mem _ (List.mem_append_left _ (List.mem_append_left _ lm6))), List.forall_mem_cons.mpr ⟨(List.mem_cons_of_mem _ (List.mem_append_left _ (List.mem_append_left _ lm13))), List.forall_mem_cons.mpr ⟨(List.mem_cons_of_mem _ (List.mem_append_left _ (List.mem_append_left _ lm14))), List.forall_mem_cons.mpr ⟨(List.mem_cons_of_mem _ (List.mem_append_left _ (List.mem_append_left _ lm15))), List.forall_mem_cons.mpr ⟨(List.mem_cons_of_mem _ (List.mem_append_left _ (List.mem_append_left _ lm16))), List.forall_mem_cons.mpr ⟨(List.mem_cons_of_mem _ (List.mem_append_left _ (List.mem_append_left _ lm17))), List.forall_mem_cons.mpr ⟨(List.mem_cons_of_mem _ (List.mem_append_left _ (List.mem_append_left _ lm18))), List.forall_mem_cons.mpr ⟨(List.mem_cons_of_mem _ (List.mem_append_left _ (List.mem_append_left _ lm19))), List.forall_mem_cons.mpr ⟨(List.mem_cons_of_mem _ (List.mem_append_left _ (List.mem_append_left _ lm20))), List.forall_mem_cons.mpr ⟨(List.mem_cons_of_mem _ (List.mem_append_left _ (List.mem_append_left _ lm21))), List.forall_mem_cons.mpr ⟨(List.mem_cons_of_mem _ (List.mem_append_left _ (List.mem_append_left _ lm22))), List.forall_mem_cons.mpr ⟨(List.mem_cons_of_mem _ (List.mem_append_left _ (List.mem_append_left _ lm23))), List.forall_mem_cons.mpr ⟨(List.mem_cons_of_mem _ (List.mem_append_left _ (List.mem_append_right _ lm0))), List.forall_mem_cons.mpr ⟨(List.mem_cons_of_mem _ (List.mem_append_left _ (List.mem_append_right _ lm1))), List.forall_mem_cons.mpr ⟨(List.mem_cons_of_mem _ (List.mem_append_left _ (List.mem_append_right _ lm2))), List.forall_mem_cons.mpr ⟨(List.mem_cons_of_mem _ (List.mem_append_left _ (List.mem_append_right _ lm3))), List.forall_mem_cons.mpr ⟨(List.mem_cons_of_mem _ (List.mem_append_left _ (List.mem_append_right _ lm4))), List.forall_mem_cons.mpr ⟨(List.mem_cons_of_mem _ (List.mem_append_left _ (List.mem_append_right _ lm5))), List.forall_mem_cons.mpr ⟨(List.mem_cons_of_mem _ (List.mem_append_left _ (List.mem_append_right _ lm6))), (fun _ h => absurd h List.not_mem_nil)⟩⟩⟩⟩⟩⟩⟩⟩⟩⟩⟩⟩⟩⟩⟩⟩⟩⟩⟩⟩⟩⟩⟩⟩, List.forall_mem_cons.mpr ⟨(List.mem_cons_of_mem _ (List.mem_append_left _ (List.mem_append_right _ lm7))), List.forall_mem_cons.mpr ⟨(List.mem_cons_of_mem _ (List.mem_append_left _ (List.mem_append_right _ lm8))), List.forall_mem_cons.mpr ⟨(List.mem_cons_of_mem _ (List.mem_append_left _ (List.mem_append_right _ lm9))), List.forall_mem_cons.mpr ⟨(List.mem_cons_of_mem _ (List.mem_append_left _ (List.mem_append_right _ lm10))), List.forall_mem_cons.mpr ⟨(List.mem_cons_of_mem _ (List.mem_append_left _ (List.mem_append_right _ lm11))), List.forall_mem_cons.mpr ⟨(List.mem_cons_of_mem _ (List.mem_append_left _ (List.mem_append_right _ lm12))), (fun _ h => absurd h List.not_mem_nil)⟩⟩⟩⟩⟩⟩⟩, (fun _ h => (List.mem_cons_of_mem _ (List.mem_append_right _ h)))⟩⟩) gw_X12_holds)
set_option maxHeartbeats 2000000 in
set_option maxRecDepth 100000 in
theorem m_due (l : Launch) (D : va_G) (g : Nat → Nat) (ka : Nat → ClassId) (ad : Nat → Nat) (i : Nat → Nat → Int32) (r : Nat → Nat → Nat) (L : Nat → Nat → Int64) (d : Nat → Nat → UInt64) (x : Int32) (y : Int32) (z : Int32) (hO : OkI i) (hR : RS r) (sz : Nat) (hx0 : 0 ≤ x.toInt) (hx1 : x.toInt ≤ 7) (hy0 : 0 ≤ y.toInt) (hy1 : y.toInt ≤ 1) (hz0 : 0 ≤ z.toInt) (hz1 : z.toInt ≤ 23) : Met l yX12_due wsX12_due ({ frames := 5, cells := 0, slots := 0, locals := 113 }) (va_Pc [.ref (g 36), .int x, .int y, .int z] (sj_B D (hwc g ka i r L d) (hT ka) sz (gx ad (va_A (hwc g ka i r L d) sz)))) (sj_Qi (S := (Nat → Nat → Int32)) D (fun v u => OkI u ∧ (∀ a b, ¬ ((a = 36 ∧ (b = 65 ∨ b = 66)) ∨ a = 418 ∨ a = 419) → u a b = i a b) ∧ ((0 : Int) ≤ v.toInt ∧ v.toInt ≤ 1) ∧ (v.toInt = b01 (mdue i y.toInt (i 400 z.toInt.toNat) x.toInt.toNat))) (fun u => hwc g ka u r L d) (fun _ => []) (va_A (hwc g ka i r L d) sz)) 0 0 (va_A (hwc g ka i r L d) sz) := by
  refine x_met (Ex := gx ad) (cc := cX12_due) (maxL := 4) (ret := (some .boolean)) (by decide) rfl (Nat.le_of_ble_eq_true rfl) ?_
  intro p e s m below meth c A ls hx hb hr hml hts hown hlocks hA hS hH hK hE hl
  have hown : s.vm.findClass RX12 = some m.cls := hown
  have in12 : ∀ w ∈ wsX120, w ∈ wsX12_due := (fun _ h => (List.mem_cons_of_mem _ (List.mem_append_right _ h)))
  have wd0 := hts (.fieldLink RX12 404 "StoryDeskModel" "hooks" "I") (List.mem_cons_of_mem _ (List.mem_append_left _ (List.mem_append_left _ lm0)))
  have wd1 := hts (.fieldLink RX12 411 "StoryDeskModel" "early" "[Z") (List.mem_cons_of_mem _ (List.mem_append_left _ (List.mem_append_left _ lm1)))
  have wd2 := hts (.fieldLink RX12 204 "StoryDeskModel" "caseTags" "[I") (List.mem_cons_of_mem _ (List.mem_append_left _ (List.mem_append_left _ lm2)))
  have hl : lv_has ls 4 [(0, .ref (g 36)), (1, .int x), (2, .int y), (3, .int z)] := hl
  have hK : va_K D vwCl (hT ka) s := hK
  have hb67 : (0 : Int) ≤ (i 36 67).toInt ∧ (i 36 67).toInt ≤ 8 := hO 36 67
  refine lv_iload_n hx hb dX12_due_0 rfl (lv_at hl 1 rfl) ?_
  refine lv_aload_n hx hb dX12_due_1 rfl (lv_at hl 0 rfl) ?_
  have bx_1 : (0 : Int) ≤ (i 36 67).toInt ∧ (i 36 67).toInt ≤ 8 := hO 36 67
  refine h_geti (ci := 12) (C := RX12) (F := TX12) (N := 86) hx hb hts in12 hown hK hH (by decide) (rfl : kd 36 = 12) (by decide) rfl 67 (by decide) wd0 (fun _ h9 => h9) (by decide) rfl dX12_due_2 ?_
  refine lv_icmp_ge (tgt := 36) hx hb dX12_due_5 (by decide) (fun c_2 => ?_) (fun c_2 => ?_)
  · skip
    have h_3 := s_le (rfl : (i 36 67).toInt = _) (rfl : x.toInt = _) c_2
    refine lv_iconst (v := 0) hx hb dX12_due_36 (by decide) ?_
    have hV_4 : (0 : Int32).toInt = b01 (mdue i y.toInt (i 400 z.toInt.toNat) x.toInt.toNat) := (by rw [mdue_n1 (by omega)]; rfl)
    exact sj_zret hx hb hr hlocks (by decide +kernel) hS i ⟨hO, (fun a b ha => rfl), ⟨by decide, by decide⟩, hV_4⟩ hH (sj_Knil hK) (Nat.le_of_ble_eq_true rfl) (Nat.le_of_ble_eq_true rfl) dX12_due_37
  · skip
    have h_5 := s_nle (rfl : (i 36 67).toInt = _) (rfl : x.toInt = _) c_2
    refine lv_aload_n hx hb dX12_due_8 rfl (lv_at hl 0 rfl) ?_
    refine h_getr (ci := 12) (C := RX12) (F := TX12) (N := 86) hx hb hts in12 hown hK hH (by decide) (rfl : kd 36 = 12) (by decide) rfl 68 (by decide) wd1 (fun _ h9 => h9) (by decide) rfl (t := 420) (hR 36 68 rfl) (by decide) dX12_due_9 ?_
    refine lv_iload_n hx hb dX12_due_12 rfl (lv_at hl 1 rfl) ?_
    have bx_6 : (0 : Int) ≤ (i 420 (x.toInt).toNat).toInt ∧ (i 420 (x.toInt).toNat).toInt ≤ 1 := hO 420 (x.toInt).toNat
    refine h_zald hx hb hK hH (by decide) (rfl : kd 420 = 15) (s_vin (N := 8) (rfl : x.toInt = _) (rfl : ln 420 = 8) (by omega) (by omega)) dX12_due_13 ?_
    have ek_7 : x.toNatClampNeg = (x.toInt).toNat := (s_cl (show x.toInt = x.toInt by omega))
    refine sj_i (y := (i 420 (x.toInt).toNat)) (by rw [ek_7]) ?_
    refine lv_iload_n hx hb dX12_due_14 rfl (lv_at hl 2 rfl) ?_
    refine lv_icmp_ne (tgt := 36) hx hb dX12_due_15 (by decide) (fun c_8 => ?_) (fun c_8 => ?_)
    · skip
      have h_9 := s_ne (rfl : (i 420 (x.toInt).toNat).toInt = _) (rfl : y.toInt = _) c_8
      refine lv_iconst (v := 0) hx hb dX12_due_36 (by decide) ?_
      have hV_10 : (0 : Int32).toInt = b01 (mdue i y.toInt (i 400 z.toInt.toNat) x.toInt.toNat) := (by rw [mdue_n2 (by omega)]; rfl)
      exact sj_zret hx hb hr hlocks (by decide +kernel) hS i ⟨hO, (fun a b ha => rfl), ⟨by decide, by decide⟩, hV_10⟩ hH (sj_Knil hK) (Nat.le_of_ble_eq_true rfl) (Nat.le_of_ble_eq_true rfl) dX12_due_37
    · skip
      have h_11 := s_eq (rfl : (i 420 (x.toInt).toNat).toInt = _) (rfl : y.toInt = _) c_8
      refine lv_aload_n hx hb dX12_due_18 rfl (lv_at hl 0 rfl) ?_
      refine lv_iload_n hx hb dX12_due_19 rfl (lv_at hl 1 rfl) ?_
      refine lv_aload_n hx hb dX12_due_20 rfl (lv_at hl 0 rfl) ?_
      refine h_getr (ci := 12) (C := RX12) (F := TX12) (N := 86) hx hb hts in12 hown hK hH (by decide) (rfl : kd 36 = 12) (by decide) rfl 37 (by decide) wd2 (fun _ h9 => h9) (by decide) rfl (t := 400) (hR 36 37 rfl) (by decide) dX12_due_21 ?_
      refine lv_iload_n hx hb dX12_due_24 rfl (lv_at hl 3 rfl) ?_
      have bx_12 : (0 : Int) ≤ (i 400 (z.toInt).toNat).toInt ∧ (i 400 (z.toInt).toNat).toInt ≤ 65535 := hO 400 (z.toInt).toNat
      refine h_iald hx hb hK hH (by decide) (rfl : kd 400 = 13) (s_vin (N := 24) (rfl : z.toInt = _) (rfl : ln 400 = 24) (by omega) (by omega)) dX12_due_25 ?_
      have ek_13 : z.toNatClampNeg = (z.toInt).toNat := (s_cl (show z.toInt = z.toInt by omega))
      refine sj_i (y := (i 400 (z.toInt).toNat)) (by rw [ek_13]) ?_
      refine x_calli (va_runV (As := [.int x, .int (i 400 (z.toInt).toNat)]) (rest := []) ⟨hx, hb, hml, hown, hts⟩ (m_holds l D g ka ad i r L d x (i 400 (z.toInt).toNat) hO hR s.heap.size (by first | omega | decide) (by first | omega | decide)) (cwV 2 hts gX12_due_X12_holds rfl rfl rfl (by decide +kernel) ⟨(Nat.le_of_ble_eq_true rfl), (Nat.le_of_ble_eq_true rfl)⟩) (x_preV (q := (RX12, TX12, 86)) hH hK (q_obj (by decide) (rfl : kd 36 = 12) (by decide)) rfl gxb (gxw hE hS (x_F hH hS hA))) rfl rfl hl.1 rfl (lv_room (Nat.le_of_ble_eq_true rfl)) dX12_due_26 ⟨(Nat.le_of_ble_eq_true rfl), (Nat.le_of_ble_eq_true rfl)⟩) hH hS hA rfl rfl (fun r_14 im_16 H locs hw_15 hH hS => ?_)
      have hH : sj_H D A (hwc g ka im_16 r L d) H := hH
      obtain ⟨hO_18, hfr_17, hr_19, hx2_20⟩ := hw_15
      have hr_19 : (0 : Int) ≤ r_14.toInt ∧ r_14.toInt ≤ 1 := hr_19
      refine lv_if_eq (tgt := 36) hx hb dX12_due_29 (by decide) (fun c_21 => ?_) (fun c_21 => ?_)
      · skip
        have h_22 := s_eq (rfl : r_14.toInt = _) (show (0 : Int32).toInt = 0 from rfl) c_21
        refine lv_iconst (v := 0) hx hb dX12_due_36 (by decide) ?_
        have hbo := b01_or hx2_20
        have hV_23 : (0 : Int32).toInt = b01 (mdue i y.toInt (i 400 z.toInt.toNat) x.toInt.toNat) := (by rw [mdue_v (by omega) (by omega)]; rw [(hbo.resolve_left (fun q => by have := q.1; omega)).2]; rfl)
        exact sj_zret hx hb hr hlocks (by decide +kernel) hS im_16 ⟨hO_18, (fun a b ha => (hfr_17 a b (by omega))), ⟨by decide, by decide⟩, hV_23⟩ hH (sj_Knil hK) (Nat.le_of_ble_eq_true rfl) (Nat.le_of_ble_eq_true rfl) dX12_due_37
      · skip
        have h_24 := s_ne (rfl : r_14.toInt = _) (show (0 : Int32).toInt = 0 from rfl) c_21
        refine lv_iconst (v := 1) hx hb dX12_due_32 (by decide) ?_
        refine lv_goto (tgt := 37) hx hb dX12_due_33 (by decide) ?_
        have hbo := b01_or hx2_20
        have hV_25 : (1 : Int32).toInt = b01 (mdue i y.toInt (i 400 z.toInt.toNat) x.toInt.toNat) := (by rw [mdue_v (by omega) (by omega)]; rw [(hbo.resolve_right (fun q => by have := q.1; omega)).2]; rfl)
        exact sj_zret hx hb hr hlocks (by decide +kernel) hS im_16 ⟨hO_18, (fun a b ha => (hfr_17 a b (by omega))), ⟨by decide, by decide⟩, hV_25⟩ hH (sj_Knil hK) (Nat.le_of_ble_eq_true rfl) (Nat.le_of_ble_eq_true rfl) dX12_due_37
set_option maxHeartbeats 2000000 in
set_option maxRecDepth 100000 in
theorem m_seek (l : Launch) (D : va_G) (g : Nat → Nat) (ka : Nat → ClassId) (ad : Nat → Nat) (i : Nat → Nat → Int32) (r : Nat → Nat → Nat) (L : Nat → Nat → Int64) (d : Nat → Nat → UInt64)  (hO : OkI i) (hR : RS r) (sz : Nat) (hup : (i 36 79).toInt ≤ (i 36 33).toInt) : Met l yX12_seek wsX12_seek ({ frames := 5, cells := 0, slots := 0, locals := 113 }) (va_Pc [.ref (g 36)] (sj_B D (hwc g ka i r L d) (hT ka) sz (gx ad (va_A (hwc g ka i r L d) sz)))) (sj_Qv (S := (Nat → Nat → Int32)) D (fun u => OkI u ∧ (∀ a b, ¬ ((a = 36 ∧ (b = 65 ∨ b = 66 ∨ b = 79)) ∨ a = 418 ∨ a = 419) → u a b = i a b) ∧ (((u 36 79).toInt ≤ (i 36 33).toInt)) ∧ (skD (mcw i) (i 36 79).toInt (u 36 79).toInt) ∧ (skE (mcw i) (u 36 79).toInt (i 36 33).toInt)) (fun u => hwc g ka u r L d) (fun _ => []) (va_A (hwc g ka i r L d) sz)) 0 0 (va_A (hwc g ka i r L d) sz) := by
  refine x_met (Ex := gx ad) (cc := cX12_seek) (maxL := 1) (ret := none) (by decide) rfl (Nat.le_of_ble_eq_true rfl) ?_
  intro p e s m below meth c A ls hx hb hr hml hts hown hlocks hA hS hH hK hE hl
  have hown : s.vm.findClass RX12 = some m.cls := hown
  have in12 : ∀ w ∈ wsX120, w ∈ wsX12_seek := (fun _ h => (List.mem_cons_of_mem _ (List.mem_append_right _ h)))
  have wd0 := hts (.fieldLink RX12 504 "StoryDeskModel" "upcoming" "I") (List.mem_cons_of_mem _ (List.mem_append_left _ (List.mem_append_left _ lm0)))
  have wd1 := hts (.fieldLink RX12 165 "StoryDeskModel" "cases" "I") (List.mem_cons_of_mem _ (List.mem_append_left _ (List.mem_append_left _ lm1)))
  have wd2 := hts (.fieldLink RX12 204 "StoryDeskModel" "caseTags" "[I") (List.mem_cons_of_mem _ (List.mem_append_left _ (List.mem_append_left _ lm2)))
  have hl : lv_has ls 1 [(0, .ref (g 36))] := hl
  have hK : va_K D vwCl (hT ka) s := hK
  have hb33 : (0 : Int) ≤ (i 36 33).toInt ∧ (i 36 33).toInt ≤ 24 := hO 36 33
  have hb79 : (0 : Int) ≤ (i 36 79).toInt ∧ (i 36 79).toInt ≤ 24 := hO 36 79
  -- loop at 0
  have lp_1 : ∀ (fuel_lp_1 : Nat)  (j1 : Nat → Nat → Int32) (H : Heap) (locs : List Loc) (ls : Array Slot), (24 - (j1 36 79).toInt).toNat < fuel_lp_1 → skD (mcw i) (i 36 79).toInt (j1 36 79).toInt → (j1 36 79).toInt ≤ (i 36 33).toInt → OkI j1 → (∀ a b, ¬ ((a = 36 ∧ (b = 65 ∨ b = 66 ∨ b = 79)) ∨ a = 418 ∨ a = 419) → j1 a b = i a b) → lv_has ls 1 [(0, .ref (g 36))] → sj_H D A (hwc g ka j1 r L d) H → va_S A s.heap H locs → W p l e (headSpec wsX12_seek ({ frames := 5, cells := 0, slots := 0, locals := 113 })).room s m ([.ref (g 36)] : List Value).toArray below meth c H locs 0 0 (MQ below (sj_Qv (S := (Nat → Nat → Int32)) D (fun u => OkI u ∧ (∀ a b, ¬ ((a = 36 ∧ (b = 65 ∨ b = 66 ∨ b = 79)) ∨ a = 418 ∨ a = 419) → u a b = i a b) ∧ (((u 36 79).toInt ≤ (i 36 33).toInt)) ∧ (skD (mcw i) (i 36 79).toInt (u 36 79).toInt) ∧ (skE (mcw i) (u 36 79).toInt (i 36 33).toInt)) (fun u => hwc g ka u r L d) (fun _ => []) A) ([.ref (g 36)] : List Value).toArray s 0 0 A) (F0 m 0 ls []) := by
    intro fuel_lp_1
    induction fuel_lp_1 with
    | zero => intros; omega
    | succ fuel_lp_1 ih_lp_1 =>
      intro j1 H locs ls hm hi_lp_1_0 hi_lp_1_1 hO_j1 hfr_j1 hl hH hS
      refine lv_aload_n hx hb dX12_seek_0 rfl (lv_at hl 0 rfl) ?_
      have bx_2 : (0 : Int) ≤ (j1 36 79).toInt ∧ (j1 36 79).toInt ≤ 24 := hO_j1 36 79
      refine h_geti (ci := 12) (C := RX12) (F := TX12) (N := 86) hx hb hts in12 hown hK hH (by decide) (rfl : kd 36 = 12) (by decide) rfl 79 (by decide) wd0 (fun _ h9 => h9) (by decide) rfl dX12_seek_1 ?_
      refine lv_aload_n hx hb dX12_seek_4 rfl (lv_at hl 0 rfl) ?_
      have bx_3 : (0 : Int) ≤ (i 36 33).toInt ∧ (i 36 33).toInt ≤ 24 := hO 36 33
      refine h_geti (ci := 12) (C := RX12) (F := TX12) (N := 86) hx hb hts in12 hown hK hH (by decide) (rfl : kd 36 = 12) (by decide) rfl 33 (by decide) wd1 (fun _ h9 => h9) (by decide) rfl dX12_seek_5 ?_
      refine sj_i (y := (i 36 33)) (hfr_j1 36 33 (by omega)) ?_
      refine lv_icmp_ge (tgt := 42) hx hb dX12_seek_8 (by decide) (fun c_4 => ?_) (fun c_4 => ?_)
      · skip
        have h_5 := s_le (rfl : (i 36 33).toInt = _) (rfl : (j1 36 79).toInt = _) c_4
        have hp_6 : (j1 36 79).toInt = ((j1 36 79) : Int32).toInt := rfl
        have hV_7 : ((j1 36 79).toInt ≤ (i 36 33).toInt) := (by omega)
        have hp_8 : (j1 36 79).toInt = ((j1 36 79) : Int32).toInt := rfl
        have hV_9 : skD (mcw i) (i 36 79).toInt (j1 36 79).toInt := (by rw [show (j1 36 79).toInt = (j1 36 79).toInt from congrArg Int32.toInt (rfl)]; exact hi_lp_1_0)
        have hV_10 : skE (mcw i) (j1 36 79).toInt (i 36 33).toInt := (fun q => by exfalso; omega)
        exact sj_vret hx hb hr hlocks hS j1 ⟨hO_j1, (fun a b ha => (hfr_j1 a b (by omega))), hV_7, hV_9, hV_10⟩ hH (sj_Knil hK) (Nat.le_of_ble_eq_true rfl) (Nat.le_of_ble_eq_true rfl) dX12_seek_42
      · skip
        have h_11 := s_nle (rfl : (i 36 33).toInt = _) (rfl : (j1 36 79).toInt = _) c_4
        refine lv_aload_n hx hb dX12_seek_11 rfl (lv_at hl 0 rfl) ?_
        refine lv_bipush (v := 8) hx hb dX12_seek_12 (by decide) ?_
        refine lv_aload_n hx hb dX12_seek_14 rfl (lv_at hl 0 rfl) ?_
        refine h_getr (ci := 12) (C := RX12) (F := TX12) (N := 86) hx hb hts in12 hown hK hH (by decide) (rfl : kd 36 = 12) (by decide) rfl 37 (by decide) wd2 (fun _ h9 => h9) (by decide) rfl (t := 400) (hR 36 37 rfl) (by decide) dX12_seek_15 ?_
        refine lv_aload_n hx hb dX12_seek_18 rfl (lv_at hl 0 rfl) ?_
        refine h_geti (ci := 12) (C := RX12) (F := TX12) (N := 86) hx hb hts in12 hown hK hH (by decide) (rfl : kd 36 = 12) (by decide) rfl 79 (by decide) wd0 (fun _ h9 => h9) (by decide) rfl dX12_seek_19 ?_
        have bx_12 : (0 : Int) ≤ (i 400 ((j1 36 79).toInt).toNat).toInt ∧ (i 400 ((j1 36 79).toInt).toNat).toInt ≤ 65535 := hO 400 ((j1 36 79).toInt).toNat
        refine h_iald hx hb hK hH (by decide) (rfl : kd 400 = 13) (s_vin (N := 24) (rfl : (j1 36 79).toInt = _) (rfl : ln 400 = 24) (by omega) (by omega)) dX12_seek_22 ?_
        have ek_13 : (j1 36 79).toNatClampNeg = ((j1 36 79).toInt).toNat := (s_cl (show (j1 36 79).toInt = (j1 36 79).toInt by omega))
        refine sj_i (y := (i 400 ((j1 36 79).toInt).toNat)) (by rw [ek_13]; exact (hfr_j1 400 ((j1 36 79).toInt).toNat (by omega))) ?_
        have hl_14 : (8 : Int32).toInt = 8 := rfl
        refine x_calli (va_runV (As := [.int 8, .int (i 400 ((j1 36 79).toInt).toNat)]) (rest := []) ⟨hx, hb, hml, hown, hts⟩ (m_holds l D g ka ad j1 r L d 8 (i 400 ((j1 36 79).toInt).toNat) hO_j1 hR H.size (by first | omega | decide) (by first | omega | decide)) (cwV 2 hts gX12_seek_X12_holds rfl rfl rfl (by decide +kernel) ⟨(Nat.le_of_ble_eq_true rfl), (Nat.le_of_ble_eq_true rfl)⟩) (x_preV (q := (RX12, TX12, 86)) hH hK (q_obj (by decide) (rfl : kd 36 = 12) (by decide)) rfl gxb (gxw hE hS (x_F hH hS hA))) rfl rfl hl.1 rfl (lv_room (Nat.le_of_ble_eq_true rfl)) dX12_seek_23 ⟨(Nat.le_of_ble_eq_true rfl), (Nat.le_of_ble_eq_true rfl)⟩) hH hS hA rfl rfl (fun r_15 im_17 H locs hw_16 hH hS => ?_)
        have hH : sj_H D A (hwc g ka im_17 r L d) H := hH
        obtain ⟨hO_19, hfr_18, hr_20, hx2_21⟩ := hw_16
        have hr_20 : (0 : Int) ≤ r_15.toInt ∧ r_15.toInt ≤ 1 := hr_20
        have hbo := b01_or hx2_21
        rw [show tgHM j1 (8 : Int32).toInt.toNat (i 400 ((j1 36 79).toInt).toNat) = mcw i (j1 36 79).toInt.toNat from (tgHM_fr (i := i) (funext fun b9 => (hfr_j1 416 b9 (by omega))) (funext fun b9 => (hfr_j1 417 b9 (by omega))) _).trans (by unfold mcw; rfl)] at hbo
        refine lv_if_ne (tgt := 42) hx hb dX12_seek_26 (by decide) (fun c_22 => ?_) (fun c_22 => ?_)
        · skip
          have h_23 := s_ne (rfl : r_15.toInt = _) (show (0 : Int32).toInt = 0 from rfl) c_22
          have hp_24 : (im_17 36 79).toInt = ((j1 36 79) : Int32).toInt := congrArg Int32.toInt ((hfr_18 36 79 (by omega)))
          have hV_25 : ((im_17 36 79).toInt ≤ (i 36 33).toInt) := (by omega)
          have hp_26 : (im_17 36 79).toInt = ((j1 36 79) : Int32).toInt := congrArg Int32.toInt ((hfr_18 36 79 (by omega)))
          have hV_27 : skD (mcw i) (i 36 79).toInt (im_17 36 79).toInt := (by rw [show (im_17 36 79).toInt = (j1 36 79).toInt from congrArg Int32.toInt ((hfr_18 36 79 (by omega)))]; exact hi_lp_1_0)
          have hV_28 : skE (mcw i) (im_17 36 79).toInt (i 36 33).toInt := (fun q => by rw [show (im_17 36 79).toInt = (j1 36 79).toInt from congrArg Int32.toInt ((hfr_18 36 79 (by omega)))]; exact (hbo.resolve_right (fun q => by have := q.1; omega)).2)
          exact sj_vret hx hb hr hlocks hS im_17 ⟨hO_19, (fun a b ha => ((hfr_18 a b (by omega)).trans (hfr_j1 a b (by omega)))), hV_25, hV_27, hV_28⟩ hH (sj_Knil hK) (Nat.le_of_ble_eq_true rfl) (Nat.le_of_ble_eq_true rfl) dX12_seek_42
        · skip
          have h_29 := s_eq (rfl : r_15.toInt = _) (show (0 : Int32).toInt = 0 from rfl) c_22
          refine lv_aload_n hx hb dX12_seek_29 rfl (lv_at hl 0 rfl) ?_
          refine lv_dup hx hb dX12_seek_30 rfl ?_
          refine h_geti (ci := 12) (C := RX12) (F := TX12) (N := 86) hx hb hts in12 hown hK hH (by decide) (rfl : kd 36 = 12) (by decide) rfl 79 (by decide) wd0 (fun _ h9 => h9) (by decide) rfl dX12_seek_31 ?_
          refine sj_i (y := (j1 36 79)) (hfr_18 36 79 (by omega)) ?_
          refine lv_iconst (v := 1) hx hb dX12_seek_34 (by decide) ?_
          refine lv_iadd hx hb dX12_seek_35 ?_
          obtain ⟨z_30, ez_30, hz_30⟩ := s_add (rfl : (j1 36 79).toInt = _) (show (1 : Int32).toInt = 1 from rfl) (by omega) (by omega)
          refine sj_i ez_30 ?_
          have hO_31 := okp hO_19 (n := 36) (k := 79) (v := z_30) (show (0 : Int) ≤ (z_30 : Int32).toInt ∧ (z_30 : Int32).toInt ≤ 24 from ⟨by omega, by omega⟩)
          refine h_puti (ty := .int) (ci := 12) (C := RX12) (F := TX12) (N := 86) hx hb hts in12 tyX12 tyX12_ok nmX12 hown hK hH hS (by decide) (rfl : kd 36 = 12) (by decide) rfl 79 (by decide) wd0 (fun _ h9 => h9) rfl (by decide +kernel) rfl rfl (by decide) rfl dX12_seek_36 (fun H locs hH hS => ?_)
          refine lv_goto (tgt := 0) hx hb dX12_seek_39 (by decide) ?_
          have hp_32 : ((up2 im_17 36 79 z_30) 36 79).toInt = (z_30 : Int32).toInt := congrArg Int32.toInt ((up2_at _ _ _ _))
          have hp_33 : ((up2 im_17 36 79 z_30) 36 79).toInt = (z_30 : Int32).toInt := congrArg Int32.toInt ((up2_at _ _ _ _))
          exact ih_lp_1  _ _ _ ls (by omega) (skD_s hi_lp_1_0 (by omega) (by omega) (hbo.resolve_left (fun q => by have := q.1; omega)).2) (by omega) hO_31 (fun a b ha => ((up2_o _ _ (by omega)).trans ((hfr_18 a b (by omega)).trans (hfr_j1 a b (by omega))))) (lv_sub hl [0] rfl) hH hS
  have hp_34 : (i 36 79).toInt = ((i 36 79) : Int32).toInt := rfl
  exact lp_1 _  _ _ _ ls (Nat.lt_succ_self _) (skD_0 rfl) (by omega) hO (fun a b ha => rfl) (lv_sub hl [0] rfl) hH hS
