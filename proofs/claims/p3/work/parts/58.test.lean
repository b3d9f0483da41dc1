theorem sqz_pre {f : Nat → Int32} {a n : Nat} : ∀ {m : Nat}, n ≤ m → sqz (tgL f a n) ≠ [] → sqz (tgL f a m) ≠ [] := by
  intro m h
  induction h with
  | refl => exact id
  | step _ ih => intro g; rw [sqz_snoc]; simp [ih g]
theorem mfin_nil {V : List Bool} : mfin V [] = V.head? := rfl
theorem mfin_40 {V : List Bool} {S : List Int} : mfin V (40 :: S) = none := by
  show (if (40 : Int) = 40 then none else _) = _
  rw [if_pos rfl]
theorem mfin_go {V : List Bool} {S : List Int} {c : Int} (h : c ≠ 40) : mfin V (c :: S) = mfin (mapp c V) S := by
  show (if c = 40 then none else _) = _
  rw [if_neg h]
theorem mr_nilT {T : Int → Bool} {V : List Bool} {S : List Int} : mr T [] true V S = none := rfl
theorem mr_nilF {T : Int → Bool} {V : List Bool} {S : List Int} : mr T [] false V S = mfin V S := rfl
theorem dX12_test_0 : decode cX12_test 0 = .ok (.iload_n 3, 1) := by decide +kernel
theorem dX12_test_1 : decode cX12_test 1 = .ok (.bipush 40, 2) := by decide +kernel
theorem dX12_test_3 : decode cX12_test 3 = .ok (.if_icmp .le 5, 3) := by decide +kernel
theorem dX12_test_8 : decode cX12_test 8 = .ok (.aload_n 0, 1) := by decide +kernel
theorem dX12_test_9 : decode cX12_test 9 = .ok (.iconst 0, 1) := by decide +kernel
theorem dX12_test_10 : decode cX12_test 10 = .ok (.putfield 375, 3) := by decide +kernel
theorem dX12_test_13 : decode cX12_test 13 = .ok (.aload_n 0, 1) := by decide +kernel
theorem dX12_test_14 : decode cX12_test 14 = .ok (.iconst 0, 1) := by decide +kernel
theorem dX12_test_15 : decode cX12_test 15 = .ok (.putfield 369, 3) := by decide +kernel
theorem dX12_test_18 : decode cX12_test 18 = .ok (.iconst 1, 1) := by decide +kernel
theorem dX12_test_19 : decode cX12_test 19 = .ok (.istore 5, 2) := by decide +kernel
theorem dX12_test_21 : decode cX12_test 21 = .ok (.iconst 1, 1) := by decide +kernel
theorem dX12_test_22 : decode cX12_test 22 = .ok (.istore 6, 2) := by decide +kernel
theorem dX12_test_24 : decode cX12_test 24 = .ok (.iload_n 2, 1) := by decide +kernel
theorem dX12_test_25 : decode cX12_test 25 = .ok (.istore 7, 2) := by decide +kernel
theorem dX12_test_27 : decode cX12_test 27 = .ok (.iload 7, 2) := by decide +kernel
theorem dX12_test_29 : decode cX12_test 29 = .ok (.iload_n 2, 1) := by decide +kernel
theorem dX12_test_30 : decode cX12_test 30 = .ok (.iload_n 3, 1) := by decide +kernel
theorem dX12_test_31 : decode cX12_test 31 = .ok (.iadd, 1) := by decide +kernel
theorem dX12_test_32 : decode cX12_test 32 = .ok (.if_icmp .ge 99, 3) := by decide +kernel
theorem dX12_test_131 : decode cX12_test 131 = .ok (.iload 6, 2) := by decide +kernel
theorem dX12_test_133 : decode cX12_test 133 = .ok (.ifCond .eq 5, 3) := by decide +kernel
theorem dX12_test_138 : decode cX12_test 138 = .ok (.iload 5, 2) := by decide +kernel
theorem dX12_test_140 : decode cX12_test 140 = .ok (.ifCond .eq 5, 3) := by decide +kernel
theorem dX12_test_145 : decode cX12_test 145 = .ok (.aload_n 0, 1) := by decide +kernel
theorem dX12_test_146 : decode cX12_test 146 = .ok (.getfield 369, 3) := by decide +kernel
theorem dX12_test_149 : decode cX12_test 149 = .ok (.ifCond .le 28, 3) := by decide +kernel
theorem dX12_test_177 : decode cX12_test 177 = .ok (.aload_n 0, 1) := by decide +kernel
theorem dX12_test_178 : decode cX12_test 178 = .ok (.getfield 372, 3) := by decide +kernel
theorem dX12_test_181 : decode cX12_test 181 = .ok (.iconst 0, 1) := by decide +kernel
theorem dX12_test_182 : decode cX12_test 182 = .ok (.iaload, 1) := by decide +kernel
theorem dX12_test_183 : decode cX12_test 183 = .ok (.ireturn, 1) := by decide +kernel
theorem dX12_test_152 : decode cX12_test 152 = .ok (.aload_n 0, 1) := by decide +kernel
theorem dX12_test_153 : decode cX12_test 153 = .ok (.getfield 366, 3) := by decide +kernel
theorem dX12_test_156 : decode cX12_test 156 = .ok (.aload_n 0, 1) := by decide +kernel
theorem dX12_test_157 : decode cX12_test 157 = .ok (.getfield 369, 3) := by decide +kernel
theorem dX12_test_160 : decode cX12_test 160 = .ok (.iconst 1, 1) := by decide +kernel
theorem dX12_test_161 : decode cX12_test 161 = .ok (.isub, 1) := by decide +kernel
theorem dX12_test_162 : decode cX12_test 162 = .ok (.caload, 1) := by decide +kernel
theorem dX12_test_163 : decode cX12_test 163 = .ok (.bipush 40, 2) := by decide +kernel
theorem dX12_test_165 : decode cX12_test 165 = .ok (.if_icmp .ne 5, 3) := by decide +kernel
theorem dX12_test_170 : decode cX12_test 170 = .ok (.aload_n 0, 1) := by decide +kernel
theorem dX12_test_171 : decode cX12_test 171 = .ok (.invokevirtual 378, 3) := by decide +kernel
theorem dX12_test_174 : decode cX12_test 174 = .ok (.goto (-29), 3) := by decide +kernel
theorem dX12_test_168 : decode cX12_test 168 = .ok (.iconst (-1), 1) := by decide +kernel
theorem dX12_test_169 : decode cX12_test 169 = .ok (.ireturn, 1) := by decide +kernel
theorem dX12_test_143 : decode cX12_test 143 = .ok (.iconst (-1), 1) := by decide +kernel
theorem dX12_test_144 : decode cX12_test 144 = .ok (.ireturn, 1) := by decide +kernel
theorem dX12_test_136 : decode cX12_test 136 = .ok (.iconst 1, 1) := by decide +kernel
theorem dX12_test_137 : decode cX12_test 137 = .ok (.ireturn, 1) := by decide +kernel
theorem dX12_test_35 : decode cX12_test 35 = .ok (.aload_n 1, 1) := by decide +kernel
theorem dX12_test_36 : decode cX12_test 36 = .ok (.iload 7, 2) := by decide +kernel
theorem dX12_test_38 : decode cX12_test 38 = .ok (.caload, 1) := by decide +kernel
theorem dX12_test_39 : decode cX12_test 39 = .ok (.istore 8, 2) := by decide +kernel
theorem dX12_test_41 : decode cX12_test 41 = .ok (.iload 8, 2) := by decide +kernel
theorem dX12_test_43 : decode cX12_test 43 = .ok (.bipush 32, 2) := by decide +kernel
theorem dX12_test_45 : decode cX12_test 45 = .ok (.if_icmp .ne 6, 3) := by decide +kernel
theorem dX12_test_51 : decode cX12_test 51 = .ok (.iconst 0, 1) := by decide +kernel
theorem dX12_test_52 : decode cX12_test 52 = .ok (.istore 6, 2) := by decide +kernel
theorem dX12_test_54 : decode cX12_test 54 = .ok (.iload 5, 2) := by decide +kernel
theorem dX12_test_56 : decode cX12_test 56 = .ok (.ifCond .eq 17, 3) := by decide +kernel
theorem dX12_test_73 : decode cX12_test 73 = .ok (.aload_n 0, 1) := by decide +kernel
theorem dX12_test_74 : decode cX12_test 74 = .ok (.iload 8, 2) := by decide +kernel
theorem dX12_test_76 : decode cX12_test 76 = .ok (.invokevirtual 391, 3) := by decide +kernel
theorem dX12_test_79 : decode cX12_test 79 = .ok (.ifCond .ne 5, 3) := by decide +kernel
theorem dX12_test_84 : decode cX12_test 84 = .ok (.iload 5, 2) := by decide +kernel
theorem dX12_test_86 : decode cX12_test 86 = .ok (.ifCond .eq 25, 3) := by decide +kernel
theorem dX12_test_111 : decode cX12_test 111 = .ok (.iload 8, 2) := by decide +kernel
theorem dX12_test_113 : decode cX12_test 113 = .ok (.bipush 41, 2) := by decide +kernel
theorem dX12_test_115 : decode cX12_test 115 = .ok (.if_icmp .eq 7, 3) := by decide +kernel
theorem dX12_test_122 : decode cX12_test 122 = .ok (.iconst 0, 1) := by decide +kernel
theorem dX12_test_123 : decode cX12_test 123 = .ok (.istore 5, 2) := by decide +kernel
theorem dX12_test_125 : decode cX12_test 125 = .ok (.iinc 7 1, 3) := by decide +kernel
theorem dX12_test_128 : decode cX12_test 128 = .ok (.goto (-101), 3) := by decide +kernel
theorem dX12_test_118 : decode cX12_test 118 = .ok (.iconst 1, 1) := by decide +kernel
theorem dX12_test_119 : decode cX12_test 119 = .ok (.goto 4, 3) := by decide +kernel
theorem dX12_test_82 : decode cX12_test 82 = .ok (.iconst (-1), 1) := by decide +kernel
theorem dX12_test_83 : decode cX12_test 83 = .ok (.ireturn, 1) := by decide +kernel
theorem dX12_test_59 : decode cX12_test 59 = .ok (.aload_n 0, 1) := by decide +kernel
theorem dX12_test_60 : decode cX12_test 60 = .ok (.iload 8, 2) := by decide +kernel
theorem dX12_test_62 : decode cX12_test 62 = .ok (.iload 4, 2) := by decide +kernel
theorem dX12_test_64 : decode cX12_test 64 = .ok (.invokevirtual 388, 3) := by decide +kernel
theorem dX12_test_67 : decode cX12_test 67 = .ok (.ifCond .ne 17, 3) := by decide +kernel
theorem dX12_test_89 : decode cX12_test 89 = .ok (.iload 8, 2) := by decide +kernel
theorem dX12_test_91 : decode cX12_test 91 = .ok (.bipush 33, 2) := by decide +kernel
theorem dX12_test_93 : decode cX12_test 93 = .ok (.if_icmp .eq 10, 3) := by decide +kernel
theorem dX12_test_103 : decode cX12_test 103 = .ok (.iconst 1, 1) := by decide +kernel
theorem dX12_test_104 : decode cX12_test 104 = .ok (.goto 19, 3) := by decide +kernel
theorem dX12_test_96 : decode cX12_test 96 = .ok (.iload 8, 2) := by decide +kernel
theorem dX12_test_98 : decode cX12_test 98 = .ok (.bipush 40, 2) := by decide +kernel
theorem dX12_test_100 : decode cX12_test 100 = .ok (.if_icmp .ne 7, 3) := by decide +kernel
theorem dX12_test_107 : decode cX12_test 107 = .ok (.iconst 0, 1) := by decide +kernel
theorem dX12_test_108 : decode cX12_test 108 = .ok (.goto 15, 3) := by decide +kernel
theorem dX12_test_70 : decode cX12_test 70 = .ok (.goto 12, 3) := by decide +kernel
theorem dX12_test_48 : decode cX12_test 48 = .ok (.goto 77, 3) := by decide +kernel
theorem dX12_test_6 : decode cX12_test 6 = .ok (.iconst (-1), 1) := by decide +kernel
theorem dX12_test_7 : decode cX12_test 7 = .ok (.ireturn, 1) := by decide +kernel
theorem gX12_test_X12_applyTop : GoodIn wsX12_test (wsV RX12 378 RX12 yX12_applyTop wsX12_applyTop) := goodIn_app (goodIn_sub (List.forall_mem_cons.mpr ⟨(List.mem_cons_of_mem _ (List.mem_append_left _ lm13)), List.forall_mem_cons.mpr ⟨(List.mem_cons_of_mem _ (List.mem_append_left _ lm14)), List.forall_mem_cons.mpr ⟨(List.mem_cons_of_mem _ (List.mem_append_left _ lm15)), List.forall_mem_cons.mpr ⟨(List.mem_cons_of_mem _ (List.mem_append_left _ lm7)), (fun _ h => absurd h List.not_mem_nil)⟩⟩⟩⟩) (by decide +kernel)) (goodIn_sub (by unfold wsX12_applyTop; exact List.forall_mem_cons.mpr ⟨(List.mem_cons_of_mem _ (List.mem_append_left _ lm16)), List.forall_mem_append.mpr ⟨List.forall_mem_cons.mpr ⟨(List.mem_cons_of_mem _ (List.mem_append_left _ lm2)), List.forall_mem_cons.mpr ⟨(List.mem_cons_of_mem _ (List.mem_append_left _ lm1)), List.forall_mem_cons.mpr ⟨(List.mem_cons_of_mem _ (List.mem_append_left _ lm3)), List.forall_mem_cons.mpr ⟨(List.mem_cons_of_mem _ (List.mem_append_left _ lm0)), (fun _ h => absurd h List.not_mem_nil)⟩⟩⟩⟩, (fun _ h => (List.mem_cons_of_mem _ (List.mem_append_right _ h)))⟩⟩) gw_X12_applyTop)
theorem gw_X12_operator : wsX12_operator.all goodWord = true := by decide +kernel
theorem gX12_test_X12_operator : GoodIn wsX12_test (wsV RX12 391 RX12 yX12_operator wsX12_operator) := goodIn_app (goodIn_sub (List.forall_mem_cons.mpr ⟨(List.mem_cons_of_mem _ (List.mem_append_left _ lm17)), List.forall_mem_cons.mpr ⟨(List.mem_cons_of_mem _ (List.mem_append_left _ lm18)), List.forall_mem_cons.mpr ⟨(List.mem_cons_of_mem _ (List.mem_append_left _ lm19)), List.forall_mem_cons.mpr ⟨(List.mem_cons_of_mem _ (List.mem_append_left _ lm7)), (fun _ h => absurd h List.not_mem_nil)⟩⟩⟩⟩) (by decide +kernel)) (goodIn_sub (by unfold wsX12_operator; exact List.forall_mem_cons.mpr ⟨(List.mem_cons_of_mem _ (List.mem_append_left _ lm20)), List.forall_mem_append.mpr ⟨List.forall_mem_cons.mpr ⟨(List.mem_cons_of_mem _ (List.mem_append_left _ lm1)), List.forall_mem_cons.mpr ⟨(List.mem_cons_of_mem _ (List.mem_append_left _ lm2)), List.forall_mem_cons.mpr ⟨(List.mem_cons_of_mem _ (List.mem_append_left _ lm21)), List.forall_mem_cons.mpr ⟨(List.mem_cons_of_mem _ (List.mem_append_left _ lm22)), List.forall_mem_cons.mpr ⟨(List.mem_cons_of_mem _ (List.mem_append_left _ lm7)), List.forall_mem_cons.mpr ⟨(List.mem_cons_of_mem _ (List.mem_append_left _ lm23)), List.forall_mem_cons.mpr ⟨(List.mem_cons_of_mem _ (List.mem_append_left _ lm13)), List.forall_mem_cons.mpr ⟨(List.mem_cons_of_mem _ (List.mem_append_left _ lm14)), List.forall_mem_cons.mpr ⟨(List.mem_cons_of_mem _ (List.mem_append_left _ lm15)), List.forall_mem_cons.mpr ⟨(List.mem_cons_of_mem _ (List.mem_append_left _ lm16)), List.forall_mem_cons.mpr ⟨(List.mem_cons_of_mem _ (List.mem_append_left _ lm3)), List.forall_mem_cons.mpr ⟨(List.mem_cons_of_mem _ (List.mem_append_left _ lm0)), List.forall_mem_cons.mpr ⟨(List.mem_cons_of_mem _ (List.mem_append_left _ lm9)), List.forall_mem_cons.mpr ⟨(List.mem_cons_of_mem _ (List.mem_append_left _ lm10)), List.forall_mem_cons.mpr ⟨(List.mem_cons_of_mem _ (List.mem_append_left _ lm11)), List.forall_mem_cons.mpr ⟨(List.mem_cons_of_mem _ (List.mem_append_left _ lm12)), (fun _ h => absurd h List.not_mem_nil)⟩⟩⟩⟩⟩⟩⟩⟩⟩⟩⟩⟩⟩⟩⟩⟩, (fun _ h => (List.mem_cons_of_mem _ (List.mem_append_right _ h)))⟩⟩) gw_X12_operator)
theorem gw_X12_operand : wsX12_operand.all goodWord = true := by decide +kernel
theorem gX12_test_X12_operand : GoodIn wsX12_test (wsV RX12 388 RX12 yX12_operand wsX12_operand) := goodIn_app (goodIn_sub (List.forall_mem_cons.mpr ⟨(List.mem_cons_of_mem _ (List.mem_append_left _ lm4)), List.forall_mem_cons.mpr ⟨(List.mem_cons_of_mem _ (List.mem_append_left _ lm5)), List.forall_mem_cons.mpr ⟨(List.mem_cons_of_mem _ (List.mem_append_left _ lm6)), List.forall_mem_cons.mpr ⟨(List.mem_cons_of_mem _ (List.mem_append_left _ lm7)), (fun _ h => absurd h List.not_mem_nil)⟩⟩⟩⟩) (by decide +kernel)) (goodIn_sub (by unfold wsX12_operand; exact List.forall_mem_cons.mpr ⟨(List.mem_cons_of_mem _ (List.mem_append_left _ lm8)), List.forall_mem_append.mpr ⟨List.forall_mem_cons.mpr ⟨(List.mem_cons_of_mem _ (List.mem_append_left _ lm2)), List.forall_mem_cons.mpr ⟨(List.mem_cons_of_mem _ (List.mem_append_left _ lm1)), List.forall_mem_cons.mpr ⟨(List.mem_cons_of_mem _ (List.mem_append_left _ lm3)), List.forall_mem_cons.mpr ⟨(List.mem_cons_of_mem _ (List.mem_append_left _ lm0)), List.forall_mem_cons.mpr ⟨(List.mem_cons_of_mem _ (List.mem_append_left _ lm9)), List.forall_mem_cons.mpr ⟨(List.mem_cons_of_mem _ (List.mem_append_left _ lm10)), List.forall_mem_cons.mpr ⟨(List.mem_cons_of_mem _ (List.mem_append_left _ lm11)), List.forall_mem_cons.mpr ⟨(List.mem_cons_of_mem _ (List.mem_append_left _ lm7)), List.forall_mem_cons.mpr ⟨(List.mem_cons_of_mem _ (List.mem_append_left _ lm12)), List.forall_mem_cons.mpr ⟨(List.mem_cons_of_mem _ (List.mem_append_left _ lm13)), List.forall_mem_cons.mpr ⟨(List.mem_cons_of_mem _ (List.mem_append_left _ lm14)), List.forall_mem_cons.mpr ⟨(List.mem_cons_of_mem _ (List.mem_append_left _ lm15)), List.forall_mem_cons.mpr ⟨(List.mem_cons_of_mem _ (List.mem_append_left _ lm16)), (fun _ h => absurd h List.not_mem_nil)⟩⟩⟩⟩⟩⟩⟩⟩⟩⟩⟩⟩⟩, (fun _ h => (List.mem_cons_of_mem _ (List.mem_append_right _ h)))⟩⟩) gw_X12_operand)
set_option maxHeartbeats 2000000 in
set_option maxRecDepth 100000 in
theorem m_test_text (l : Launch) (D : va_G) (g : Nat → Nat) (ka : Nat → ClassId) (ad : Nat → Nat) (i : Nat → Nat → Int32) (r : Nat → Nat → Nat) (L : Nat → Nat → Int64) (d : Nat → Nat → UInt64) (x : Int32) (z : Int32) (y : Int32) (hO : OkI i) (hR : RS r) (sz : Nat) (hx0 : 0 ≤ x.toInt) (hz0 : 0 ≤ z.toInt) (hxz : z.toInt ≤ 40 → x.toInt + z.toInt ≤ 480) (hx1 : x.toInt ≤ 480) (hz1 : z.toInt ≤ 480) : Met l yX12_test wsX12_test ({ frames := 3, cells := 0, slots := 0, locals := 63 }) (va_Pc [.ref (g 36), .ref (g 379), .int x, .int z, .int y] (sj_B D (hwc g ka i r L d) (hT ka) sz (gx ad (va_A (hwc g ka i r L d) sz)))) (sj_Qi (S := (Nat → Nat → Int32)) D (fun v u => OkI u ∧ (∀ a b, ¬ ((a = 36 ∧ (b = 65 ∨ b = 66)) ∨ a = 418 ∨ a = 419) → u a b = i a b) ∧ ((-1 : Int) ≤ v.toInt ∧ v.toInt ≤ 1) ∧ (40 < z.toInt → v.toInt = -1) ∧ (z.toInt ≤ 40 → sqz (tgL (i 379) x.toInt.toNat z.toInt.toNat) = [] → v.toInt = 1) ∧ (z.toInt ≤ 40 → sqz (tgL (i 379) x.toInt.toNat z.toInt.toNat) ≠ [] → ((mr (tb y) (tgL (i 379) x.toInt.toNat z.toInt.toNat) true [] [] = none → v.toInt = -1) ∧ (∀ b : Bool, mr (tb y) (tgL (i 379) x.toInt.toNat z.toInt.toNat) true [] [] = some b → v.toInt = (if b then 1 else 0))))) (fun u => hwc g ka u r L d) (fun _ => []) (va_A (hwc g ka i r L d) sz)) 0 0 (va_A (hwc g ka i r L d) sz) := by
  refine x_met (Ex := gx ad) (cc := cX12_test) (maxL := 9) (ret := (some .int)) (by decide) rfl (Nat.le_of_ble_eq_true rfl) ?_
  intro p e s m below meth c A ls hx hb hr hml hts hown hlocks hA hS hH hK hE hl
  have hown : s.vm.findClass RX12 = some m.cls := hown
  have in12 : ∀ w ∈ wsX120, w ∈ wsX12_test := (fun _ h => (List.mem_cons_of_mem _ (List.mem_append_right _ h)))
  have wd0 := hts (.fieldLink RX12 375 "StoryDeskModel" "valued" "I") (List.mem_cons_of_mem _ (List.mem_append_left _ lm0))
  have wd1 := hts (.fieldLink RX12 369 "StoryDeskModel" "signed" "I") (List.mem_cons_of_mem _ (List.mem_append_left _ lm1))
  have wd2 := hts (.fieldLink RX12 372 "StoryDeskModel" "values" "[I") (List.mem_cons_of_mem _ (List.mem_append_left _ lm3))
  have wd3 := hts (.fieldLink RX12 366 "StoryDeskModel" "signs" "[C") (List.mem_cons_of_mem _ (List.mem_append_left _ lm2))
  have hl : lv_has ls 9 [(0, .ref (g 36)), (1, .ref (g 379)), (2, .int x), (3, .int z), (4, .int y)] := hl
  have hK : va_K D vwCl (hT ka) s := hK
  have hg_1 := s_rng y
  refine lv_iload_n hx hb dX12_test_0 rfl (lv_at hl 3 rfl) ?_
  refine lv_bipush (v := 40) hx hb dX12_test_1 (by decide) ?_
  refine lv_icmp_le (tgt := 8) hx hb dX12_test_3 (by decide) (fun c_2 => ?_) (fun c_2 => ?_)
  · skip
    have h_3 := s_le (rfl : z.toInt = _) (show (40 : Int32).toInt = 40 from rfl) c_2
    refine lv_aload_n hx hb dX12_test_8 rfl (lv_at hl 0 rfl) ?_
    refine lv_iconst (v := 0) hx hb dX12_test_9 (by decide) ?_
    have hO_4 := okp hO (n := 36) (k := 65) (v := 0) (show (0 : Int) ≤ (0 : Int32).toInt ∧ (0 : Int32).toInt ≤ 42 from ⟨by decide, by decide⟩)
    refine h_puti (ty := .int) (ci := 12) (C := RX12) (F := TX12) (N := 86) hx hb hts in12 tyX12 tyX12_ok nmX12 hown hK hH hS (by decide) (rfl : kd 36 = 12) (by decide) rfl 65 (by decide) wd0 (fun _ h9 => h9) rfl (by decide +kernel) rfl rfl (by decide) rfl dX12_test_10 (fun H locs hH hS => ?_)
    refine lv_aload_n hx hb dX12_test_13 rfl (lv_at hl 0 rfl) ?_
    refine lv_iconst (v := 0) hx hb dX12_test_14 (by decide) ?_
    have hO_5 := okp hO_4 (n := 36) (k := 66) (v := 0) (show (0 : Int) ≤ (0 : Int32).toInt ∧ (0 : Int32).toInt ≤ 42 from ⟨by decide, by decide⟩)
    refine h_puti (ty := .int) (ci := 12) (C := RX12) (F := TX12) (N := 86) hx hb hts in12 tyX12 tyX12_ok nmX12 hown hK hH hS (by decide) (rfl : kd 36 = 12) (by decide) rfl 66 (by decide) wd1 (fun _ h9 => h9) rfl (by decide +kernel) rfl rfl (by decide) rfl dX12_test_15 (fun H locs hH hS => ?_)
    refine lv_iconst (v := 1) hx hb dX12_test_18 (by decide) ?_
    refine lv_istore (lv' := [(5, .int 1), (0, .ref (g 36)), (1, .ref (g 379)), (2, .int x), (3, .int z), (4, .int y)]) hx hb dX12_test_19 hl (by decide) rfl (fun ls hl => ?_)
    refine lv_iconst (v := 1) hx hb dX12_test_21 (by decide) ?_
    refine lv_istore (lv' := [(6, .int 1), (5, .int 1), (0, .ref (g 36)), (1, .ref (g 379)), (2, .int x), (3, .int z), (4, .int y)]) hx hb dX12_test_22 hl (by decide) rfl (fun ls hl => ?_)
    refine lv_iload_n hx hb dX12_test_24 rfl (lv_at hl 4 rfl) ?_
    refine lv_istore (lv' := [(7, .int x), (6, .int 1), (5, .int 1), (0, .ref (g 36)), (1, .ref (g 379)), (2, .int x), (3, .int z), (4, .int y)]) hx hb dX12_test_25 hl (by decide) rfl (fun ls hl => ?_)
    -- loop at 27
    have lp_6 : ∀ (fuel_lp_6 : Nat) (k : Int32) (u : Int32) (em : Int32) (j1 : Nat → Nat → Int32) (H : Heap) (locs : List Loc) (ls : Array Slot), (x.toInt + z.toInt - k.toInt).toNat < fuel_lp_6 → (0 : Int) ≤ k.toInt ∧ k.toInt ≤ 520 → (0 : Int) ≤ u.toInt ∧ u.toInt ≤ 1 → (0 : Int) ≤ em.toInt ∧ em.toInt ≤ 1 → x.toInt ≤ k.toInt ∧ k.toInt ≤ x.toInt + z.toInt ∧ (j1 36 66).toInt ≤ k.toInt - x.toInt ∧ 0 ≤ (j1 36 66).toInt → mr (tb y) (tgL (i 379) (k).toInt.toNat (x.toInt + z.toInt - (k).toInt).toNat) (decide ((u : Int32).toInt = 1)) (stkV (j1 418) (j1 36 65).toInt.toNat) (stkS (j1 419) (j1 36 66).toInt.toNat) = mr (tb y) (tgL (i 379) x.toInt.toNat z.toInt.toNat) true [] [] → ((u.toInt = 1 → (j1 36 65).toInt = (nbS (stkS (j1 419) (j1 36 66).toInt.toNat) : Int)) ∧ (u.toInt = 0 → (j1 36 65).toInt = (nbS (stkS (j1 419) (j1 36 66).toInt.toNat) : Int) + 1)) → ((em : Int32).toInt = 1 ∧ sqz (tgL (i 379) x.toInt.toNat ((k).toInt - x.toInt).toNat) = [] ∧ (u : Int32).toInt = 1) ∨ ((em : Int32).toInt = 0 ∧ sqz (tgL (i 379) x.toInt.toNat ((k).toInt - x.toInt).toNat) ≠ []) → OkI j1 → (∀ a b, ¬ ((a = 36 ∧ (b = 65 ∨ b = 66)) ∨ a = 418 ∨ a = 419) → j1 a b = (up2 (up2 i 36 65 0) 36 66 0) a b) → lv_has ls 9 [(7, .int k), (6, .int em), (5, .int u), (0, .ref (g 36)), (1, .ref (g 379)), (2, .int x), (3, .int z), (4, .int y)] → sj_H D A (hwc g ka j1 r L d) H → va_S A s.heap H locs → W p l e (headSpec wsX12_test ({ frames := 3, cells := 0, slots := 0, locals := 63 })).room s m ([.ref (g 36), .ref (g 379), .int x, .int z, .int y] : List Value).toArray below meth c H locs 0 0 (MQ below (sj_Qi (S := (Nat → Nat → Int32)) D (fun v u => OkI u ∧ (∀ a b, ¬ ((a = 36 ∧ (b = 65 ∨ b = 66)) ∨ a = 418 ∨ a = 419) → u a b = i a b) ∧ ((-1 : Int) ≤ v.toInt ∧ v.toInt ≤ 1) ∧ (40 < z.toInt → v.toInt = -1) ∧ (z.toInt ≤ 40 → sqz (tgL (i 379) x.toInt.toNat z.toInt.toNat) = [] → v.toInt = 1) ∧ (z.toInt ≤ 40 → sqz (tgL (i 379) x.toInt.toNat z.toInt.toNat) ≠ [] → ((mr (tb y) (tgL (i 379) x.toInt.toNat z.toInt.toNat) true [] [] = none → v.toInt = -1) ∧ (∀ b : Bool, mr (tb y) (tgL (i 379) x.toInt.toNat z.toInt.toNat) true [] [] = some b → v.toInt = (if b then 1 else 0))))) (fun u => hwc g ka u r L d) (fun _ => []) A) ([.ref (g 36), .ref (g 379), .int x, .int z, .int y] : List Value).toArray s 0 0 A) (F0 m 27 ls []) := by
      intro fuel_lp_6
      induction fuel_lp_6 with
      | zero => intros; omega
      | succ fuel_lp_6 ih_lp_6 =>
        intro k u em j1 H locs ls hm hr_k hr_u hr_em hi_lp_6_0 hi_lp_6_1 hi_lp_6_2 hi_lp_6_3 hO_j1 hfr_j1 hl hH hS
        refine lv_iload hx hb dX12_test_27 (lv_at hl 0 rfl) ?_
        refine lv_iload_n hx hb dX12_test_29 rfl (lv_at hl 5 rfl) ?_
        refine lv_iload_n hx hb dX12_test_30 rfl (lv_at hl 6 rfl) ?_
        refine lv_iadd hx hb dX12_test_31 ?_
        obtain ⟨z_7, ez_7, hz_7⟩ := s_add (rfl : x.toInt = _) (rfl : z.toInt = _) (by omega) (by omega)
        refine sj_i ez_7 ?_
        refine lv_icmp_ge (tgt := 131) hx hb dX12_test_32 (by decide) (fun c_8 => ?_) (fun c_8 => ?_)
        · skip
          have h_9 := s_le (rfl : z_7.toInt = _) (rfl : k.toInt = _) c_8
          refine lv_iload hx hb dX12_test_131 (lv_at hl 1 rfl) ?_
          refine lv_if_eq (tgt := 138) hx hb dX12_test_133 (by decide) (fun c_10 => ?_) (fun c_10 => ?_)
          · skip
            have h_11 := s_eq (rfl : em.toInt = _) (show (0 : Int32).toInt = 0 from rfl) c_10
            refine lv_iload hx hb dX12_test_138 (lv_at hl 2 rfl) ?_
            refine lv_if_eq (tgt := 145) hx hb dX12_test_140 (by decide) (fun c_12 => ?_) (fun c_12 => ?_)
            · skip
              have h_13 := s_eq (rfl : u.toInt = _) (show (0 : Int32).toInt = 0 from rfl) c_12
              -- loop at 145
              have lp_14 : ∀ (fuel_lp_14 : Nat)  (j2 : Nat → Nat → Int32) (H : Heap) (locs : List Loc) (ls : Array Slot), ((j2 36 66).toInt).toNat < fuel_lp_14 → 0 ≤ (j2 36 66).toInt ∧ (j2 36 66).toInt ≤ 40 → mfin (stkV (j2 418) (j2 36 65).toInt.toNat) (stkS (j1 419) (j2 36 66).toInt.toNat) = mr (tb y) (tgL (i 379) x.toInt.toNat z.toInt.toNat) true [] [] → (j2 36 65).toInt = (nbS (stkS (j1 419) (j2 36 66).toInt.toNat) : Int) + 1 → OkI j2 → (∀ a b, ¬ ((a = 36 ∧ (b = 65 ∨ b = 66)) ∨ a = 418) → j2 a b = j1 a b) → lv_has ls 9 [(7, .int k), (6, .int em), (5, .int u), (0, .ref (g 36)), (1, .ref (g 379)), (2, .int x), (3, .int z), (4, .int y)] → sj_H D A (hwc g ka j2 r L d) H → va_S A s.heap H locs → W p l e (headSpec wsX12_test ({ frames := 3, cells := 0, slots := 0, locals := 63 })).room s m ([.ref (g 36), .ref (g 379), .int x, .int z, .int y] : List Value).toArray below meth c H locs 0 0 (MQ below (sj_Qi (S := (Nat → Nat → Int32)) D (fun v u => OkI u ∧ (∀ a b, ¬ ((a = 36 ∧ (b = 65 ∨ b = 66)) ∨ a = 418 ∨ a = 419) → u a b = i a b) ∧ ((-1 : Int) ≤ v.toInt ∧ v.toInt ≤ 1) ∧ (40 < z.toInt → v.toInt = -1) ∧ (z.toInt ≤ 40 → sqz (tgL (i 379) x.toInt.toNat z.toInt.toNat) = [] → v.toInt = 1) ∧ (z.toInt ≤ 40 → sqz (tgL (i 379) x.toInt.toNat z.toInt.toNat) ≠ [] → ((mr (tb y) (tgL (i 379) x.toInt.toNat z.toInt.toNat) true [] [] = none → v.toInt = -1) ∧ (∀ b : Bool, mr (tb y) (tgL (i 379) x.toInt.toNat z.toInt.toNat) true [] [] = some b → v.toInt = (if b then 1 else 0))))) (fun u => hwc g ka u r L d) (fun _ => []) A) ([.ref (g 36), .ref (g 379), .int x, .int z, .int y] : List Value).toArray s 0 0 A) (F0 m 145 ls []) := by
                intro fuel_lp_14
                induction fuel_lp_14 with
                | zero => intros; omega
                | succ fuel_lp_14 ih_lp_14 =>
                  intro j2 H locs ls hm hi_lp_14_0 hi_lp_14_1 hi_lp_14_2 hO_j2 hfr_j2 hl hH hS
                  refine lv_aload_n hx hb dX12_test_145 rfl (lv_at hl 3 rfl) ?_
                  have bx_15 : (0 : Int) ≤ (j2 36 66).toInt ∧ (j2 36 66).toInt ≤ 42 := hO_j2 36 66
                  refine h_geti (ci := 12) (C := RX12) (F := TX12) (N := 86) hx hb hts in12 hown hK hH (by decide) (rfl : kd 36 = 12) (by decide) rfl 66 (by decide) wd1 (fun _ h9 => h9) (by decide) rfl dX12_test_146 ?_
                  refine lv_if_le (tgt := 177) hx hb dX12_test_149 (by decide) (fun c_16 => ?_) (fun c_16 => ?_)
                  · skip
                    have h_17 := s_le (rfl : (j2 36 66).toInt = _) (show (0 : Int32).toInt = 0 from rfl) c_16
                    refine lv_aload_n hx hb dX12_test_177 rfl (lv_at hl 3 rfl) ?_
                    refine h_getr (ci := 12) (C := RX12) (F := TX12) (N := 86) hx hb hts in12 hown hK hH (by decide) (rfl : kd 36 = 12) (by decide) rfl 63 (by decide) wd2 (fun _ h9 => h9) (by decide) rfl (t := 418) (hR 36 63 rfl) (by decide) dX12_test_178 ?_
                    refine lv_iconst (v := 0) hx hb dX12_test_181 (by decide) ?_
                    have bx_18 : (0 : Int) ≤ (j2 418 0).toInt ∧ (j2 418 0).toInt ≤ 1 := hO_j2 418 0
                    refine h_iald hx hb hK hH (by decide) (rfl : kd 418 = 13) (s_vin (N := 42) (show (0 : Int32).toInt = 0 from rfl) (rfl : ln 418 = 42) (by omega) (by omega)) dX12_test_182 ?_
                    refine sj_i (y := (j2 418 0)) rfl ?_
                    have hne : sqz (tgL (i 379) x.toInt.toNat z.toInt.toNat) ≠ [] := by
                        rcases hi_lp_6_3 with q | ⟨_, q⟩
                        · exfalso; omega
                        · rw [show (k.toInt - x.toInt).toNat = z.toInt.toNat by omega] at q
                          exact q
                    exact sj_zret hx hb hr hlocks rfl hS j2 ⟨hO_j2, (fun a b ha => ((hfr_j2 a b (by omega)).trans ((hfr_j1 a b (by omega)).trans ((up2_o _ _ (by omega)).trans (up2_o _ _ (by omega)))))), ⟨by omega, by omega⟩, (fun h => by omega), (fun _ q => absurd q hne), (fun _ _ => by
                              have h9 := hi_lp_14_1
                              have hn2 := hi_lp_14_2
                              rw [show (j2 36 66).toInt.toNat = 0 by omega] at h9 hn2
                              have hn3 : (j2 36 65).toInt = 1 := hn2
                              rw [hn3] at h9
                              have h8 : some (decide ((j2 418 0).toInt = 1)) = mr (tb y) (tgL (i 379) x.toInt.toNat z.toInt.toNat) true [] [] := h9
                              refine ⟨fun q => ?_, fun b hb => ?_⟩
                              · rw [q] at h8; exact absurd h8 (by simp)
                              · rw [hb] at h8
                                have h7 := Option.some.inj h8
                                subst h7
                                by_cases q : (j2 418 0).toInt = 1
                                · simp [q]
                                · simp [q]; omega)⟩ hH (sj_Knil hK) (Nat.le_of_ble_eq_true rfl) (Nat.le_of_ble_eq_true rfl) dX12_test_183
                  · skip
                    have h_19 := s_nle (rfl : (j2 36 66).toInt = _) (show (0 : Int32).toInt = 0 from rfl) c_16
                    refine lv_aload_n hx hb dX12_test_152 rfl (lv_at hl 3 rfl) ?_
                    refine h_getr (ci := 12) (C := RX12) (F := TX12) (N := 86) hx hb hts in12 hown hK hH (by decide) (rfl : kd 36 = 12) (by decide) rfl 64 (by decide) wd3 (fun _ h9 => h9) (by decide) rfl (t := 419) (hR 36 64 rfl) (by decide) dX12_test_153 ?_
                    refine lv_aload_n hx hb dX12_test_156 rfl (lv_at hl 3 rfl) ?_
                    refine h_geti (ci := 12) (C := RX12) (F := TX12) (N := 86) hx hb hts in12 hown hK hH (by decide) (rfl : kd 36 = 12) (by decide) rfl 66 (by decide) wd1 (fun _ h9 => h9) (by decide) rfl dX12_test_157 ?_
                    refine lv_iconst (v := 1) hx hb dX12_test_160 (by decide) ?_
                    refine lv_isub hx hb dX12_test_161 ?_
                    obtain ⟨z_20, ez_20, hz_20⟩ := s_sub (rfl : (j2 36 66).toInt = _) (show (1 : Int32).toInt = 1 from rfl) (by omega) (by omega)
                    refine sj_i ez_20 ?_
                    have bx_21 : (0 : Int) ≤ (j1 419 ((j2 36 66).toInt - 1).toNat).toInt ∧ (j1 419 ((j2 36 66).toInt - 1).toNat).toInt ≤ 65535 := hO_j1 419 ((j2 36 66).toInt - 1).toNat
                    refine h_cald hx hb hK hH (by decide) (rfl : kd 419 = 14) (s_vin (N := 42) (rfl : z_20.toInt = _) (rfl : ln 419 = 42) (by omega) (by omega)) dX12_test_162 ?_
                    have ek_22 : z_20.toNatClampNeg = ((j2 36 66).toInt - 1).toNat := (s_cl (show z_20.toInt = (j2 36 66).toInt - 1 by omega))
                    refine sj_i (y := (j1 419 ((j2 36 66).toInt - 1).toNat)) (by rw [ek_22]; exact (hfr_j2 419 ((j2 36 66).toInt - 1).toNat (by omega))) ?_
                    refine lv_bipush (v := 40) hx hb dX12_test_163 (by decide) ?_
                    refine lv_icmp_ne (tgt := 170) hx hb dX12_test_165 (by decide) (fun c_23 => ?_) (fun c_23 => ?_)
                    · skip
                      have h_24 := s_ne (rfl : (j1 419 ((j2 36 66).toInt - 1).toNat).toInt = _) (show (40 : Int32).toInt = 40 from rfl) c_23
                      refine lv_aload_n hx hb dX12_test_170 rfl (lv_at hl 3 rfl) ?_
                      have hj9 : (j2 419 ((j2 36 66).toInt - 1).toNat).toInt = (j1 419 ((j2 36 66).toInt - 1).toNat).toInt := congrArg Int32.toInt (hfr_j2 419 ((j2 36 66).toInt - 1).toNat (by omega))
                      have hSs := stkS_s (f := j1 419) (n := (j2 36 66).toInt) (m := ((j2 36 66).toInt - 1).toNat) (by omega)
                      have hnb := nbS_or (j1 419 ((j2 36 66).toInt - 1).toNat).toInt (stkS (j1 419) ((j2 36 66).toInt - 1).toNat)
                      rw [← hSs] at hnb
                      have hn2 := hi_lp_14_2
                      refine x_callv (va_runV (As := []) (rest := []) ⟨hx, hb, hml, hown, hts⟩ (m_applyTop l D g ka ad j2 r L d  hO_j2 hR H.size (by first | omega | decide) (by first | omega | decide)) (cwV 0 hts gX12_test_X12_applyTop rfl rfl rfl (by decide +kernel) ⟨(Nat.le_of_ble_eq_true rfl), (Nat.le_of_ble_eq_true rfl)⟩) (x_preV (q := (RX12, TX12, 86)) hH hK (q_obj (by decide) (rfl : kd 36 = 12) (by decide)) rfl gxb (gxw hE hS (x_F hH hS hA))) rfl rfl hl.1 rfl (lv_room (Nat.le_of_ble_eq_true rfl)) dX12_test_171 ⟨(Nat.le_of_ble_eq_true rfl), (Nat.le_of_ble_eq_true rfl)⟩) hH hS hA rfl rfl (fun im_27 H locs hw_26 hH hS => ?_)
                      have hH : sj_H D A (hwc g ka im_27 r L d) H := hH
                      obtain ⟨hO_29, hfr_28, he_30, hx2_31⟩ := hw_26
                      refine lv_goto (tgt := 145) hx hb dX12_test_174 (by decide) ?_
                      have hbs9 : (0 : Int) ≤ (im_27 36 66).toInt ∧ (im_27 36 66).toInt ≤ 42 := hO_29 36 66
                      exact ih_lp_14  _ _ _ ls (by omega) ⟨by omega, by omega⟩ (by
                                have h9 := hi_lp_14_1
                                rw [hSs, mfin_go (by omega)] at h9
                                rw [hx2_31, hj9, show (im_27 36 66).toInt.toNat = ((j2 36 66).toInt - 1).toNat by omega]
                                exact h9) (by rw [show (im_27 36 66).toInt.toNat = ((j2 36 66).toInt - 1).toNat by omega]; omega) hO_29 (fun a b ha => ((hfr_28 a b (by omega)).trans (hfr_j2 a b (by omega)))) (lv_sub hl [0, 1, 2, 3, 4, 5, 6, 7] rfl) hH hS
                    · skip
                      have h_32 := s_eq (rfl : (j1 419 ((j2 36 66).toInt - 1).toNat).toInt = _) (show (40 : Int32).toInt = 40 from rfl) c_23
                      refine lv_iconst (v := (-1)) hx hb dX12_test_168 (by decide) ?_
                      have hne : sqz (tgL (i 379) x.toInt.toNat z.toInt.toNat) ≠ [] := by
                          rcases hi_lp_6_3 with q | ⟨_, q⟩
                          · exfalso; omega
                          · rw [show (k.toInt - x.toInt).toNat = z.toInt.toNat by omega] at q
                            exact q
                      exact sj_zret hx hb hr hlocks rfl hS j2 ⟨hO_j2, (fun a b ha => ((hfr_j2 a b (by omega)).trans ((hfr_j1 a b (by omega)).trans ((up2_o _ _ (by omega)).trans (up2_o _ _ (by omega)))))), ⟨by decide, by decide⟩, (fun h => by omega), (fun _ q => absurd q hne), (fun _ _ => by
                                have h9 := hi_lp_14_1
                                rw [stkS_s (f := j1 419) (n := (j2 36 66).toInt) (m := ((j2 36 66).toInt - 1).toNat) (by omega), show (j1 419 ((j2 36 66).toInt - 1).toNat).toInt = 40 by omega, mfin_40] at h9
                                exact ⟨fun _ => rfl, fun b hb => by rw [← h9] at hb; exact absurd hb (by simp)⟩)⟩ hH (sj_Knil hK) (Nat.le_of_ble_eq_true rfl) (Nat.le_of_ble_eq_true rfl) dX12_test_169
              have hbs9 : (0 : Int) ≤ (j1 36 66).toInt ∧ (j1 36 66).toInt ≤ 42 := hO_j1 36 66
              exact lp_14 _  _ _ _ ls (Nat.lt_succ_self _) ⟨by omega, by omega⟩ (by
                        have hI := hi_lp_6_1
                        rw [show (x.toInt + z.toInt - k.toInt).toNat = 0 by omega, show decide (u.toInt = 1) = false by simp; omega] at hI
                        exact hI) (hi_lp_6_2.2 (by omega)) hO_j1 (fun a b ha => rfl) (lv_sub hl [0, 1, 2, 3, 4, 5, 6, 7] rfl) hH hS
            · skip
              have h_33 := s_ne (rfl : u.toInt = _) (show (0 : Int32).toInt = 0 from rfl) c_12
              refine lv_iconst (v := (-1)) hx hb dX12_test_143 (by decide) ?_
              have hne : sqz (tgL (i 379) x.toInt.toNat z.toInt.toNat) ≠ [] := by
                  rcases hi_lp_6_3 with q | ⟨_, q⟩
                  · exfalso; omega
                  · rw [show (k.toInt - x.toInt).toNat = z.toInt.toNat by omega] at q
                    exact q
              exact sj_zret hx hb hr hlocks rfl hS j1 ⟨hO_j1, (fun a b ha => ((hfr_j1 a b (by omega)).trans ((up2_o _ _ (by omega)).trans (up2_o _ _ (by omega))))), ⟨by decide, by decide⟩, (fun h => by omega), (fun _ q => absurd q hne), (fun _ _ => by
                        have hI := hi_lp_6_1
                        rw [show (x.toInt + z.toInt - k.toInt).toNat = 0 by omega, show decide (u.toInt = 1) = true by simp; omega] at hI
                        exact ⟨fun _ => rfl, fun b hb => by rw [← hI] at hb; exact absurd hb (by simp [tgL, mr])⟩)⟩ hH (sj_Knil hK) (Nat.le_of_ble_eq_true rfl) (Nat.le_of_ble_eq_true rfl) dX12_test_144
          · skip
            have h_34 := s_ne (rfl : em.toInt = _) (show (0 : Int32).toInt = 0 from rfl) c_10
            refine lv_iconst (v := 1) hx hb dX12_test_136 (by decide) ?_
            exact sj_zret hx hb hr hlocks rfl hS j1 ⟨hO_j1, (fun a b ha => ((hfr_j1 a b (by omega)).trans ((up2_o _ _ (by omega)).trans (up2_o _ _ (by omega))))), ⟨by decide, by decide⟩, (fun h => by omega), (fun _ _ => rfl), (fun _ q => by
                      exfalso
                      rcases hi_lp_6_3 with ⟨_, q2, _⟩ | ⟨q2, _⟩
                      · rw [show (k.toInt - x.toInt).toNat = z.toInt.toNat by omega] at q2
                        exact q q2
                      · omega)⟩ hH (sj_Knil hK) (Nat.le_of_ble_eq_true rfl) (Nat.le_of_ble_eq_true rfl) dX12_test_137
        · skip
          have h_35 := s_nle (rfl : z_7.toInt = _) (rfl : k.toInt = _) c_8
          refine lv_aload_n hx hb dX12_test_35 rfl (lv_at hl 4 rfl) ?_
          refine lv_iload hx hb dX12_test_36 (lv_at hl 0 rfl) ?_
          have bx_36 : (0 : Int) ≤ (i 379 (k.toInt).toNat).toInt ∧ (i 379 (k.toInt).toNat).toInt ≤ 65535 := hO 379 (k.toInt).toNat
          have hLs : (tgL (i 379) (k).toInt.toNat (x.toInt + z.toInt - (k).toInt).toNat) = (i 379 (k.toInt).toNat).toInt :: tgL (i 379) (k.toInt.toNat + 1) (x.toInt + z.toInt - k.toInt - 1).toNat := by
              rw [show (x.toInt + z.toInt - k.toInt).toNat = (x.toInt + z.toInt - k.toInt - 1).toNat + 1 by omega]; rfl
          have hI := hi_lp_6_1
          rw [hLs] at hI
          have hsn := sqz_snoc (i 379) x.toInt.toNat (k.toInt - x.toInt).toNat
          rw [show x.toInt.toNat + (k.toInt - x.toInt).toNat = (k.toInt).toNat by omega, show (k.toInt - x.toInt).toNat + 1 = (k.toInt + 1 - x.toInt).toNat by omega] at hsn
          have hnl := nbS_len (stkS (j1 419) (j1 36 66).toInt.toNat)
          rw [stkS_len] at hnl
          have hi2 := hi_lp_6_2
          refine h_cald hx hb hK hH (by decide) (rfl : kd 379 = 14) (s_vin (N := 480) (rfl : k.toInt = _) (rfl : ln 379 = 480) (by omega) (by omega)) dX12_test_38 ?_
          have ek_37 : k.toNatClampNeg = (k.toInt).toNat := (s_cl (show k.toInt = k.toInt by omega))
          refine sj_i (y := (i 379 (k.toInt).toNat)) (by rw [ek_37]; exact ((hfr_j1 379 (k.toInt).toNat (by omega)).trans ((congrFun (up2_n _ _ (by decide)) _).trans (congrFun (up2_n _ _ (by decide)) _)))) ?_
          refine lv_istore (lv' := [(8, .int (i 379 (k.toInt).toNat)), (7, .int k), (6, .int em), (5, .int u), (0, .ref (g 36)), (1, .ref (g 379)), (2, .int x), (3, .int z), (4, .int y)]) hx hb dX12_test_39 hl (by decide) rfl (fun ls hl => ?_)
          refine lv_iload hx hb dX12_test_41 (lv_at hl 0 rfl) ?_
          refine lv_bipush (v := 32) hx hb dX12_test_43 (by decide) ?_
          refine lv_icmp_ne (tgt := 51) hx hb dX12_test_45 (by decide) (fun c_38 => ?_) (fun c_38 => ?_)
          · skip
            have h_39 := s_ne (rfl : (i 379 (k.toInt).toNat).toInt = _) (show (32 : Int32).toInt = 32 from rfl) c_38
            refine lv_iconst (v := 0) hx hb dX12_test_51 (by decide) ?_
            refine lv_istore (lv' := [(6, .int 0), (8, .int (i 379 (k.toInt).toNat)), (7, .int k), (5, .int u), (0, .ref (g 36)), (1, .ref (g 379)), (2, .int x), (3, .int z), (4, .int y)]) hx hb dX12_test_52 hl (by decide) rfl (fun ls hl => ?_)
            refine lv_iload hx hb dX12_test_54 (lv_at hl 3 rfl) ?_
            refine lv_if_eq (tgt := 73) hx hb dX12_test_56 (by decide) (fun c_40 => ?_) (fun c_40 => ?_)
            · skip
              have h_41 := s_eq (rfl : u.toInt = _) (show (0 : Int32).toInt = 0 from rfl) c_40
              refine lv_aload_n hx hb dX12_test_73 rfl (lv_at hl 4 rfl) ?_
              refine lv_iload hx hb dX12_test_74 (lv_at hl 1 rfl) ?_
              refine x_calli (va_runV (As := [.int (i 379 (k.toInt).toNat)]) (rest := []) ⟨hx, hb, hml, hown, hts⟩ (m_operator l D g ka ad j1 r L d (i 379 (k.toInt).toNat) hO_j1 hR H.size (by first | omega | decide) (by first | omega | decide) (by first | omega | decide) (by first | omega | decide)) (cwV 1 hts gX12_test_X12_operator rfl rfl rfl (by decide +kernel) ⟨(Nat.le_of_ble_eq_true rfl), (Nat.le_of_ble_eq_true rfl)⟩) (x_preV (q := (RX12, TX12, 86)) hH hK (q_obj (by decide) (rfl : kd 36 = 12) (by decide)) rfl gxb (gxw hE hS (x_F hH hS hA))) rfl rfl hl.1 rfl (lv_room (Nat.le_of_ble_eq_true rfl)) dX12_test_76 ⟨(Nat.le_of_ble_eq_true rfl), (Nat.le_of_ble_eq_true rfl)⟩) hH hS hA rfl rfl (fun r_42 im_44 H locs hw_43 hH hS => ?_)
              have hH : sj_H D A (hwc g ka im_44 r L d) H := hH
              obtain ⟨hO_46, hfr_45, hr_47, he_48, hx2_49, hx2_50, hx2_51⟩ := hw_43
              have hr_47 : (0 : Int) ≤ r_42.toInt ∧ r_42.toInt ≤ 1 := hr_47
              refine lv_if_ne (tgt := 84) hx hb dX12_test_79 (by decide) (fun c_52 => ?_) (fun c_52 => ?_)
              · skip
                have h_53 := s_ne (rfl : r_42.toInt = _) (show (0 : Int32).toInt = 0 from rfl) c_52
                refine lv_iload hx hb dX12_test_84 (lv_at hl 3 rfl) ?_
                refine lv_if_eq (tgt := 111) hx hb dX12_test_86 (by decide) (fun _ => ?_) (fun h => absurd (p_eq (rfl : u.toInt = _) (show (0 : Int32).toInt = 0 from rfl) (by omega)) h)
                refine lv_iload hx hb dX12_test_111 (lv_at hl 1 rfl) ?_
                refine lv_bipush (v := 41) hx hb dX12_test_113 (by decide) ?_
                refine lv_icmp_eq (tgt := 122) hx hb dX12_test_115 (by decide) (fun c_54 => ?_) (fun c_54 => ?_)
                · skip
                  have h_55 := s_eq (rfl : (i 379 (k.toInt).toNat).toInt = _) (show (41 : Int32).toInt = 41 from rfl) c_54
                  refine lv_iconst (v := 0) hx hb dX12_test_122 (by decide) ?_
                  refine lv_istore (lv' := [(5, .int 0), (6, .int 0), (8, .int (i 379 (k.toInt).toNat)), (7, .int k), (0, .ref (g 36)), (1, .ref (g 379)), (2, .int x), (3, .int z), (4, .int y)]) hx hb dX12_test_123 hl (by decide) rfl (fun ls hl => ?_)
                  obtain ⟨z_56, ez_56, hz_56⟩ := s_add (rfl : k.toInt = _) (show (1 : Int32).toInt = 1 from rfl) (by omega) (by omega)
                  refine lv_iinc (v := z_56) (lv' := [(7, .int z_56), (5, .int 0), (6, .int 0), (8, .int (i 379 (k.toInt).toNat)), (0, .ref (g 36)), (1, .ref (g 379)), (2, .int x), (3, .int z), (4, .int y)]) hx hb dX12_test_125 hl (k := 3) rfl ez_56 (by decide) rfl (fun ls hl => ?_)
                  refine lv_goto (tgt := 27) hx hb dX12_test_128 (by decide) ?_
                  have hl_57 : (0 : Int32).toInt = 0 := rfl
                  have hl_58 : (0 : Int32).toInt = 0 := rfl
                  have hbs9 : (0 : Int) ≤ (im_44 36 66).toInt ∧ (im_44 36 66).toInt ≤ 42 := hO_46 36 66
                  have hz0 : (0 : Int32).toInt = 0 := rfl
                  have hz1 : (1 : Int32).toInt = 1 := rfl
                  exact ih_lp_6 z_56 0 0 _ _ _ ls (by omega) (by omega) (by omega) (by omega) ⟨by omega, by omega, by omega, by omega⟩ (by
                            rw [show (z_56).toInt.toNat = k.toInt.toNat + 1 by omega, show (x.toInt + z.toInt - (z_56).toInt).toNat = (x.toInt + z.toInt - k.toInt - 1).toNat by omega]
                            rw [show decide ((0 : Int32).toInt = 1) = false from rfl]
                            have h9 := hx2_50 (by omega)
                            rcases h9 with h9 | ⟨_, c8, s8, h8, h7⟩
                            · exfalso; omega
                            · have hb0 : bnd (i 379 (k.toInt).toNat).toInt = 0 := by rw [show (i 379 (k.toInt).toNat).toInt = 41 by omega]; rfl
                              rw [hb0] at h8 h7
                              rw [show decide (u.toInt = 1) = false by simp; omega, show (i 379 (k.toInt).toNat).toInt = 41 by omega, mr_close1 h8 h7] at hI
                              exact hI) (by
                            have h9 := hx2_51 (by omega)
                            exact ⟨fun q => absurd q (by decide), fun q => h9.2 (by omega)⟩) (Or.inr ⟨rfl, by rw [show (z_56).toInt = k.toInt + 1 by omega, hsn, if_neg (by omega)]; simp⟩) hO_46 (fun a b ha => ((hfr_45 a b (by omega)).trans (hfr_j1 a b (by omega)))) (lv_sub hl [0, 2, 1, 4, 5, 6, 7, 8] rfl) hH hS
                · skip
                  have h_59 := s_ne (rfl : (i 379 (k.toInt).toNat).toInt = _) (show (41 : Int32).toInt = 41 from rfl) c_54
                  refine lv_iconst (v := 1) hx hb dX12_test_118 (by decide) ?_
                  refine lv_goto (tgt := 123) hx hb dX12_test_119 (by decide) ?_
                  refine lv_istore (lv' := [(5, .int 1), (6, .int 0), (8, .int (i 379 (k.toInt).toNat)), (7, .int k), (0, .ref (g 36)), (1, .ref (g 379)), (2, .int x), (3, .int z), (4, .int y)]) hx hb dX12_test_123 hl (by decide) rfl (fun ls hl => ?_)
                  obtain ⟨z_60, ez_60, hz_60⟩ := s_add (rfl : k.toInt = _) (show (1 : Int32).toInt = 1 from rfl) (by omega) (by omega)
                  refine lv_iinc (v := z_60) (lv' := [(7, .int z_60), (5, .int 1), (6, .int 0), (8, .int (i 379 (k.toInt).toNat)), (0, .ref (g 36)), (1, .ref (g 379)), (2, .int x), (3, .int z), (4, .int y)]) hx hb dX12_test_125 hl (k := 3) rfl ez_60 (by decide) rfl (fun ls hl => ?_)
                  refine lv_goto (tgt := 27) hx hb dX12_test_128 (by decide) ?_
                  have hl_61 : (1 : Int32).toInt = 1 := rfl
                  have hl_62 : (0 : Int32).toInt = 0 := rfl
                  have hbs9 : (0 : Int) ≤ (im_44 36 66).toInt ∧ (im_44 36 66).toInt ≤ 42 := hO_46 36 66
                  have hz0 : (0 : Int32).toInt = 0 := rfl
                  have hz1 : (1 : Int32).toInt = 1 := rfl
                  exact ih_lp_6 z_60 1 0 _ _ _ ls (by omega) (by omega) (by omega) (by omega) ⟨by omega, by omega, by omega, by omega⟩ (by
                            rw [show (z_60).toInt.toNat = k.toInt.toNat + 1 by omega, show (x.toInt + z.toInt - (z_60).toInt).toNat = (x.toInt + z.toInt - k.toInt - 1).toNat by omega]
                            rw [show decide ((1 : Int32).toInt = 1) = true from rfl]
                            rw [show decide (u.toInt = 1) = false by simp; omega, mr_op (by omega)] at hI
                            have h9 := hx2_49 (by omega)
                            rw [h9.2.1, h9.2.2]
                            exact hI) (by
                            have h9 := hx2_51 (by omega)
                            exact ⟨fun q => h9.1 (by omega), fun q => absurd q (by decide)⟩) (Or.inr ⟨rfl, by rw [show (z_60).toInt = k.toInt + 1 by omega, hsn, if_neg (by omega)]; simp⟩) hO_46 (fun a b ha => ((hfr_45 a b (by omega)).trans (hfr_j1 a b (by omega)))) (lv_sub hl [0, 2, 1, 4, 5, 6, 7, 8] rfl) hH hS
              · skip
                have h_63 := s_eq (rfl : r_42.toInt = _) (show (0 : Int32).toInt = 0 from rfl) c_52
                refine lv_iconst (v := (-1)) hx hb dX12_test_82 (by decide) ?_
                have hno : mr (tb y) (tgL (i 379) x.toInt.toNat z.toInt.toNat) true [] [] = none := by
                    have g1 : ¬ ((i 379 (k.toInt).toNat).toInt = 38 ∨ (i 379 (k.toInt).toNat).toInt = 124) := fun q => by have := (hx2_49 q).1; omega
                    rw [show decide (u.toInt = 1) = false by simp; omega] at hI
                    by_cases g2 : (i 379 (k.toInt).toNat).toInt = 41
                    · have h9 := hx2_50 g2
                      rcases h9 with ⟨_, h9⟩ | ⟨h9, _⟩
                      · rw [show bnd (i 379 (k.toInt).toNat).toInt = 0 by rw [g2]; rfl] at h9
                        rw [g2, mr_close0 h9] at hI
                        exact hI.symm
                      · exfalso; omega
                    · rw [mr_badF (by omega) (by omega) (by omega) g2] at hI
                      exact hI.symm
                have hne : sqz (tgL (i 379) x.toInt.toNat z.toInt.toNat) ≠ [] := sqz_pre (n := (k.toInt + 1 - x.toInt).toNat) (by omega) (by rw [hsn, if_neg (by omega)]; simp)
                exact sj_zret hx hb hr hlocks rfl hS im_44 ⟨hO_46, (fun a b ha => ((hfr_45 a b (by omega)).trans ((hfr_j1 a b (by omega)).trans ((up2_o _ _ (by omega)).trans (up2_o _ _ (by omega)))))), ⟨by decide, by decide⟩, (fun h => by omega), (fun _ q => absurd q hne), (fun _ _ => ⟨fun _ => rfl, fun b hb => by rw [hno] at hb; exact absurd hb (by simp)⟩)⟩ hH (sj_Knil hK) (Nat.le_of_ble_eq_true rfl) (Nat.le_of_ble_eq_true rfl) dX12_test_83
            · skip
              have h_64 := s_ne (rfl : u.toInt = _) (show (0 : Int32).toInt = 0 from rfl) c_40
              refine lv_aload_n hx hb dX12_test_59 rfl (lv_at hl 4 rfl) ?_
              refine lv_iload hx hb dX12_test_60 (lv_at hl 1 rfl) ?_
              refine lv_iload hx hb dX12_test_62 (lv_at hl 8 rfl) ?_
              refine x_calli (va_runV (As := [.int (i 379 (k.toInt).toNat), .int y]) (rest := []) ⟨hx, hb, hml, hown, hts⟩ (m_operand l D g ka ad j1 r L d (i 379 (k.toInt).toNat) y hO_j1 hR H.size (by first | omega | decide) (by first | omega | decide) (by first | omega | decide) (by first | omega | decide)) (cwV 2 hts gX12_test_X12_operand rfl rfl rfl (by decide +kernel) ⟨(Nat.le_of_ble_eq_true rfl), (Nat.le_of_ble_eq_true rfl)⟩) (x_preV (q := (RX12, TX12, 86)) hH hK (q_obj (by decide) (rfl : kd 36 = 12) (by decide)) rfl gxb (gxw hE hS (x_F hH hS hA))) rfl rfl hl.1 rfl (lv_room (Nat.le_of_ble_eq_true rfl)) dX12_test_64 ⟨(Nat.le_of_ble_eq_true rfl), (Nat.le_of_ble_eq_true rfl)⟩) hH hS hA rfl rfl (fun r_65 im_67 H locs hw_66 hH hS => ?_)
              have hH : sj_H D A (hwc g ka im_67 r L d) H := hH
              obtain ⟨hO_69, hfr_68, hr_70, he_71, hx2_72, hx2_73⟩ := hw_66
              have hr_70 : (0 : Int) ≤ r_65.toInt ∧ r_65.toInt ≤ 1 := hr_70
              refine lv_if_ne (tgt := 84) hx hb dX12_test_67 (by decide) (fun c_74 => ?_) (fun c_74 => ?_)
              · skip
                have h_75 := s_ne (rfl : r_65.toInt = _) (show (0 : Int32).toInt = 0 from rfl) c_74
                refine lv_iload hx hb dX12_test_84 (lv_at hl 3 rfl) ?_
                refine lv_if_eq (tgt := 111) hx hb dX12_test_86 (by decide) (fun h => absurd h (p_ne (rfl : u.toInt = _) (show (0 : Int32).toInt = 0 from rfl) (by omega))) (fun _ => ?_)
                refine lv_iload hx hb dX12_test_89 (lv_at hl 1 rfl) ?_
                refine lv_bipush (v := 33) hx hb dX12_test_91 (by decide) ?_
                refine lv_icmp_eq (tgt := 103) hx hb dX12_test_93 (by decide) (fun c_76 => ?_) (fun c_76 => ?_)
                · skip
                  have h_77 := s_eq (rfl : (i 379 (k.toInt).toNat).toInt = _) (show (33 : Int32).toInt = 33 from rfl) c_76
                  refine lv_iconst (v := 1) hx hb dX12_test_103 (by decide) ?_
                  refine lv_goto (tgt := 123) hx hb dX12_test_104 (by decide) ?_
                  refine lv_istore (lv' := [(5, .int 1), (6, .int 0), (8, .int (i 379 (k.toInt).toNat)), (7, .int k), (0, .ref (g 36)), (1, .ref (g 379)), (2, .int x), (3, .int z), (4, .int y)]) hx hb dX12_test_123 hl (by decide) rfl (fun ls hl => ?_)
                  obtain ⟨z_78, ez_78, hz_78⟩ := s_add (rfl : k.toInt = _) (show (1 : Int32).toInt = 1 from rfl) (by omega) (by omega)
                  refine lv_iinc (v := z_78) (lv' := [(7, .int z_78), (5, .int 1), (6, .int 0), (8, .int (i 379 (k.toInt).toNat)), (0, .ref (g 36)), (1, .ref (g 379)), (2, .int x), (3, .int z), (4, .int y)]) hx hb dX12_test_125 hl (k := 3) rfl ez_78 (by decide) rfl (fun ls hl => ?_)
                  refine lv_goto (tgt := 27) hx hb dX12_test_128 (by decide) ?_
                  have hl_79 : (1 : Int32).toInt = 1 := rfl
                  have hl_80 : (0 : Int32).toInt = 0 := rfl
                  have hbs9 : (0 : Int) ≤ (im_67 36 66).toInt ∧ (im_67 36 66).toInt ≤ 42 := hO_69 36 66
                  have hz0 : (0 : Int32).toInt = 0 := rfl
                  have hz1 : (1 : Int32).toInt = 1 := rfl
                  exact ih_lp_6 z_78 1 0 _ _ _ ls (by omega) (by omega) (by omega) (by omega) ⟨by omega, by omega, by omega, by omega⟩ (by
                            rw [show (z_78).toInt.toNat = k.toInt.toNat + 1 by omega, show (x.toInt + z.toInt - (z_78).toInt).toNat = (x.toInt + z.toInt - k.toInt - 1).toNat by omega]
                            rw [show decide ((1 : Int32).toInt = 1) = true from rfl]
                            rw [show decide (u.toInt = 1) = true by simp; omega, mr_push (by omega)] at hI
                            have h9 := hx2_72 (by omega)
                            rw [h9.2.1, h9.2.2]
                            exact hI) (by
                            have h9 := hx2_72 (by omega)
                            rw [h9.2.2]
                            have := nbS_or (i 379 (k.toInt).toNat).toInt (stkS (j1 419) (j1 36 66).toInt.toNat)
                            exact ⟨fun _ => by omega, fun q => absurd q (by decide)⟩) (Or.inr ⟨rfl, by rw [show (z_78).toInt = k.toInt + 1 by omega, hsn, if_neg (by omega)]; simp⟩) hO_69 (fun a b ha => ((hfr_68 a b (by omega)).trans (hfr_j1 a b (by omega)))) (lv_sub hl [0, 2, 1, 4, 5, 6, 7, 8] rfl) hH hS
                · skip
                  have h_81 := s_ne (rfl : (i 379 (k.toInt).toNat).toInt = _) (show (33 : Int32).toInt = 33 from rfl) c_76
                  refine lv_iload hx hb dX12_test_96 (lv_at hl 1 rfl) ?_
                  refine lv_bipush (v := 40) hx hb dX12_test_98 (by decide) ?_
                  refine lv_icmp_ne (tgt := 107) hx hb dX12_test_100 (by decide) (fun c_82 => ?_) (fun c_82 => ?_)
                  · skip
                    have h_83 := s_ne (rfl : (i 379 (k.toInt).toNat).toInt = _) (show (40 : Int32).toInt = 40 from rfl) c_82
                    refine lv_iconst (v := 0) hx hb dX12_test_107 (by decide) ?_
                    refine lv_goto (tgt := 123) hx hb dX12_test_108 (by decide) ?_
                    refine lv_istore (lv' := [(5, .int 0), (6, .int 0), (8, .int (i 379 (k.toInt).toNat)), (7, .int k), (0, .ref (g 36)), (1, .ref (g 379)), (2, .int x), (3, .int z), (4, .int y)]) hx hb dX12_test_123 hl (by decide) rfl (fun ls hl => ?_)
                    obtain ⟨z_84, ez_84, hz_84⟩ := s_add (rfl : k.toInt = _) (show (1 : Int32).toInt = 1 from rfl) (by omega) (by omega)
                    refine lv_iinc (v := z_84) (lv' := [(7, .int z_84), (5, .int 0), (6, .int 0), (8, .int (i 379 (k.toInt).toNat)), (0, .ref (g 36)), (1, .ref (g 379)), (2, .int x), (3, .int z), (4, .int y)]) hx hb dX12_test_125 hl (k := 3) rfl ez_84 (by decide) rfl (fun ls hl => ?_)
                    refine lv_goto (tgt := 27) hx hb dX12_test_128 (by decide) ?_
                    have hl_85 : (0 : Int32).toInt = 0 := rfl
                    have hl_86 : (0 : Int32).toInt = 0 := rfl
                    have hbs9 : (0 : Int) ≤ (im_67 36 66).toInt ∧ (im_67 36 66).toInt ≤ 42 := hO_69 36 66
                    have hz0 : (0 : Int32).toInt = 0 := rfl
                    have hz1 : (1 : Int32).toInt = 1 := rfl
                    exact ih_lp_6 z_84 0 0 _ _ _ ls (by omega) (by omega) (by omega) (by omega) ⟨by omega, by omega, by omega, by omega⟩ (by
                              rw [show (z_84).toInt.toNat = k.toInt.toNat + 1 by omega, show (x.toInt + z.toInt - (z_84).toInt).toNat = (x.toInt + z.toInt - k.toInt - 1).toNat by omega]
                              rw [show decide ((0 : Int32).toInt = 1) = false from rfl]
                              rw [show decide (u.toInt = 1) = true by simp; omega, mr_let (by omega) (by omega)] at hI
                              have h9 := hx2_73 (by omega) (by omega)
                              rw [h9.2] at hI
                              exact hI) (by
                              have h9 := hx2_73 (by omega) (by omega)
                              have h8 := mneg_nb (stkS (j1 419) (j1 36 66).toInt.toNat) (tb y (i 379 (k.toInt).toNat).toInt :: (stkV (j1 418) (j1 36 65).toInt.toNat))
                              rw [h9.2] at h8
                              dsimp only at h8
                              exact ⟨fun q => absurd q (by decide), fun _ => by omega⟩) (Or.inr ⟨rfl, by rw [show (z_84).toInt = k.toInt + 1 by omega, hsn, if_neg (by omega)]; simp⟩) hO_69 (fun a b ha => ((hfr_68 a b (by omega)).trans (hfr_j1 a b (by omega)))) (lv_sub hl [0, 2, 1, 4, 5, 6, 7, 8] rfl) hH hS
                  · skip
                    have h_87 := s_eq (rfl : (i 379 (k.toInt).toNat).toInt = _) (show (40 : Int32).toInt = 40 from rfl) c_82
                    refine lv_iconst (v := 1) hx hb dX12_test_103 (by decide) ?_
                    refine lv_goto (tgt := 123) hx hb dX12_test_104 (by decide) ?_
                    refine lv_istore (lv' := [(5, .int 1), (6, .int 0), (8, .int (i 379 (k.toInt).toNat)), (7, .int k), (0, .ref (g 36)), (1, .ref (g 379)), (2, .int x), (3, .int z), (4, .int y)]) hx hb dX12_test_123 hl (by decide) rfl (fun ls hl => ?_)
                    obtain ⟨z_88, ez_88, hz_88⟩ := s_add (rfl : k.toInt = _) (show (1 : Int32).toInt = 1 from rfl) (by omega) (by omega)
                    refine lv_iinc (v := z_88) (lv' := [(7, .int z_88), (5, .int 1), (6, .int 0), (8, .int (i 379 (k.toInt).toNat)), (0, .ref (g 36)), (1, .ref (g 379)), (2, .int x), (3, .int z), (4, .int y)]) hx hb dX12_test_125 hl (k := 3) rfl ez_88 (by decide) rfl (fun ls hl => ?_)
                    refine lv_goto (tgt := 27) hx hb dX12_test_128 (by decide) ?_
                    have hl_89 : (1 : Int32).toInt = 1 := rfl
                    have hl_90 : (0 : Int32).toInt = 0 := rfl
                    have hbs9 : (0 : Int) ≤ (im_67 36 66).toInt ∧ (im_67 36 66).toInt ≤ 42 := hO_69 36 66
                    have hz0 : (0 : Int32).toInt = 0 := rfl
                    have hz1 : (1 : Int32).toInt = 1 := rfl
                    exact ih_lp_6 z_88 1 0 _ _ _ ls (by omega) (by omega) (by omega) (by omega) ⟨by omega, by omega, by omega, by omega⟩ (by
                              rw [show (z_88).toInt.toNat = k.toInt.toNat + 1 by omega, show (x.toInt + z.toInt - (z_88).toInt).toNat = (x.toInt + z.toInt - k.toInt - 1).toNat by omega]
                              rw [show decide ((1 : Int32).toInt = 1) = true from rfl]
                              rw [show decide (u.toInt = 1) = true by simp; omega, mr_push (by omega)] at hI
                              have h9 := hx2_72 (by omega)
                              rw [h9.2.1, h9.2.2]
                              exact hI) (by
                              have h9 := hx2_72 (by omega)
                              rw [h9.2.2]
                              have := nbS_or (i 379 (k.toInt).toNat).toInt (stkS (j1 419) (j1 36 66).toInt.toNat)
                              exact ⟨fun _ => by omega, fun q => absurd q (by decide)⟩) (Or.inr ⟨rfl, by rw [show (z_88).toInt = k.toInt + 1 by omega, hsn, if_neg (by omega)]; simp⟩) hO_69 (fun a b ha => ((hfr_68 a b (by omega)).trans (hfr_j1 a b (by omega)))) (lv_sub hl [0, 2, 1, 4, 5, 6, 7, 8] rfl) hH hS
              · skip
                have h_91 := s_eq (rfl : r_65.toInt = _) (show (0 : Int32).toInt = 0 from rfl) c_74
                refine lv_goto (tgt := 82) hx hb dX12_test_70 (by decide) ?_
                refine lv_iconst (v := (-1)) hx hb dX12_test_82 (by decide) ?_
                have hno : mr (tb y) (tgL (i 379) x.toInt.toNat z.toInt.toNat) true [] [] = none := by
                    have g1 : ¬ ((i 379 (k.toInt).toNat).toInt = 33 ∨ (i 379 (k.toInt).toNat).toInt = 40) := fun q => by have := (hx2_72 q).1; omega
                    have g2 : ¬ (97 ≤ (i 379 (k.toInt).toNat).toInt ∧ (i 379 (k.toInt).toNat).toInt ≤ 112) := fun q => by have := (hx2_73 q.1 q.2).1; omega
                    rw [show decide (u.toInt = 1) = true by simp; omega, mr_badT (by omega) (by omega) (by omega) (by omega)] at hI
                    exact hI.symm
                have hne : sqz (tgL (i 379) x.toInt.toNat z.toInt.toNat) ≠ [] := sqz_pre (n := (k.toInt + 1 - x.toInt).toNat) (by omega) (by rw [hsn, if_neg (by omega)]; simp)
                exact sj_zret hx hb hr hlocks rfl hS im_67 ⟨hO_69, (fun a b ha => ((hfr_68 a b (by omega)).trans ((hfr_j1 a b (by omega)).trans ((up2_o _ _ (by omega)).trans (up2_o _ _ (by omega)))))), ⟨by decide, by decide⟩, (fun h => by omega), (fun _ q => absurd q hne), (fun _ _ => ⟨fun _ => rfl, fun b hb => by rw [hno] at hb; exact absurd hb (by simp)⟩)⟩ hH (sj_Knil hK) (Nat.le_of_ble_eq_true rfl) (Nat.le_of_ble_eq_true rfl) dX12_test_83
          · skip
            have h_92 := s_eq (rfl : (i 379 (k.toInt).toNat).toInt = _) (show (32 : Int32).toInt = 32 from rfl) c_38
            refine lv_goto (tgt := 125) hx hb dX12_test_48 (by decide) ?_
            obtain ⟨z_93, ez_93, hz_93⟩ := s_add (rfl : k.toInt = _) (show (1 : Int32).toInt = 1 from rfl) (by omega) (by omega)
            refine lv_iinc (v := z_93) (lv' := [(7, .int z_93), (8, .int (i 379 (k.toInt).toNat)), (6, .int em), (5, .int u), (0, .ref (g 36)), (1, .ref (g 379)), (2, .int x), (3, .int z), (4, .int y)]) hx hb dX12_test_125 hl (k := 1) rfl ez_93 (by decide) rfl (fun ls hl => ?_)
            refine lv_goto (tgt := 27) hx hb dX12_test_128 (by decide) ?_
            have hbs9 : (0 : Int) ≤ (j1 36 66).toInt ∧ (j1 36 66).toInt ≤ 42 := hO_j1 36 66
            have hz0 : (0 : Int32).toInt = 0 := rfl
            have hz1 : (1 : Int32).toInt = 1 := rfl
            exact ih_lp_6 z_93 u em _ _ _ ls (by omega) (by omega) (by omega) (by omega) ⟨by omega, by omega, by omega, by omega⟩ (by
                      rw [show (z_93).toInt.toNat = k.toInt.toNat + 1 by omega, show (x.toInt + z.toInt - (z_93).toInt).toNat = (x.toInt + z.toInt - k.toInt - 1).toNat by omega]
                      rw [show (i 379 (k.toInt).toNat).toInt = 32 by omega, mr_blank] at hI
                      exact hI) hi_lp_6_2 (by rw [show (z_93).toInt = k.toInt + 1 by omega, hsn, if_pos (by omega), List.append_nil]; exact hi_lp_6_3) hO_j1 (fun a b ha => (hfr_j1 a b (by omega))) (lv_sub hl [0, 2, 3, 4, 5, 6, 7, 8] rfl) hH hS
    have hl_94 : (1 : Int32).toInt = 1 := rfl
    have hl_95 : (1 : Int32).toInt = 1 := rfl
    have hbs9 : (0 : Int) ≤ ((up2 (up2 i 36 65 0) 36 66 0) 36 66).toInt ∧ ((up2 (up2 i 36 65 0) 36 66 0) 36 66).toInt ≤ 42 := hO_5 36 66
    have hw_96 : ((up2 (up2 i 36 65 0) 36 66 0) 36 65).toInt = (0 : Int32).toInt := congrArg Int32.toInt (((up2_k _ _ (by decide)).trans (up2_at _ _ _ _)))
    have hw_97 : ((up2 (up2 i 36 65 0) 36 66 0) 36 66).toInt = (0 : Int32).toInt := congrArg Int32.toInt ((up2_at _ _ _ _))
    have hz0 : (0 : Int32).toInt = 0 := rfl
    have hz1 : (1 : Int32).toInt = 1 := rfl
    exact lp_6 _ x 1 1 _ _ _ ls (Nat.lt_succ_self _) (by omega) (by omega) (by omega) ⟨by omega, by omega, by omega, by omega⟩ (by rw [show (x.toInt + z.toInt - x.toInt).toNat = z.toInt.toNat by omega, show ((up2 (up2 i 36 65 0) 36 66 0) 36 65).toInt.toNat = 0 by omega, show ((up2 (up2 i 36 65 0) 36 66 0) 36 66).toInt.toNat = 0 by omega]; rfl) (by rw [show ((up2 (up2 i 36 65 0) 36 66 0) 36 66).toInt.toNat = 0 by omega, show stkS ((up2 (up2 i 36 65 0) 36 66 0) 419) 0 = [] from rfl]; exact ⟨fun _ => by show _ = (0 : Int); omega, fun q => absurd q (by decide)⟩) (Or.inl ⟨rfl, by rw [show (x.toInt - x.toInt).toNat = 0 by omega]; rfl, rfl⟩) hO_5 (fun a b ha => rfl) (lv_sub hl [0, 1, 2, 3, 4, 5, 6, 7] rfl) hH hS
  · skip
    have h_98 := s_nle (rfl : z.toInt = _) (show (40 : Int32).toInt = 40 from rfl) c_2
    refine lv_iconst (v := (-1)) hx hb dX12_test_6 (by decide) ?_
    exact sj_zret hx hb hr hlocks rfl hS i ⟨hO, (fun a b ha => rfl), ⟨by decide, by decide⟩, (fun _ => rfl), (fun h => by exfalso; omega), (fun h => by exfalso; omega)⟩ hH (sj_Knil hK) (Nat.le_of_ble_eq_true rfl) (Nat.le_of_ble_eq_true rfl) dX12_test_7
set_option maxHeartbeats 2000000 in
set_option maxRecDepth 100000 in
theorem m_test_tests (l : Launch) (D : va_G) (g : Nat → Nat) (ka : Nat → ClassId) (ad : Nat → Nat) (i : Nat → Nat → Int32) (r : Nat → Nat → Nat) (L : Nat → Nat → Int64) (d : Nat → Nat → UInt64) (x : Int32) (z : Int32) (y : Int32) (hO : OkI i) (hR : RS r) (sz : Nat) (hx0 : 0 ≤ x.toInt) (hz0 : 0 ≤ z.toInt) (hxz : z.toInt ≤ 40 → x.toInt + z.toInt ≤ 360) (hx1 : x.toInt ≤ 480) (hz1 : z.toInt ≤ 480) : Met l yX12_test wsX12_test ({ frames := 3, cells := 0, slots := 0, locals := 63 }) (va_Pc [.ref (g 36), .ref (g 416), .int x, .int z, .int y] (sj_B D (hwc g ka i r L d) (hT ka) sz (gx ad (va_A (hwc g ka i r L d) sz)))) (sj_Qi (S := (Nat → Nat → Int32)) D (fun v u => OkI u ∧ (∀ a b, ¬ ((a = 36 ∧ (b = 65 ∨ b = 66)) ∨ a = 418 ∨ a = 419) → u a b = i a b) ∧ ((-1 : Int) ≤ v.toInt ∧ v.toInt ≤ 1) ∧ (40 < z.toInt → v.toInt = -1) ∧ (z.toInt ≤ 40 → sqz (tgL (i 416) x.toInt.toNat z.toInt.toNat) = [] → v.toInt = 1) ∧ (z.toInt ≤ 40 → sqz (tgL (i 416) x.toInt.toNat z.toInt.toNat) ≠ [] → ((mr (tb y) (tgL (i 416) x.toInt.toNat z.toInt.toNat) true [] [] = none → v.toInt = -1) ∧ (∀ b : Bool, mr (tb y) (tgL (i 416) x.toInt.toNat z.toInt.toNat) true [] [] = some b → v.toInt = (if b then 1 else 0))))) (fun u => hwc g ka u r L d) (fun _ => []) (va_A (hwc g ka i r L d) sz)) 0 0 (va_A (hwc g ka i r L d) sz) := by
  refine x_met (Ex := gx ad) (cc := cX12_test) (maxL := 9) (ret := (some .int)) (by decide) rfl (Nat.le_of_ble_eq_true rfl) ?_
  intro p e s m below meth c A ls hx hb hr hml hts hown hlocks hA hS hH hK hE hl
  have hown : s.vm.findClass RX12 = some m.cls := hown
  have in12 : ∀ w ∈ wsX120, w ∈ wsX12_test := (fun _ h => (List.mem_cons_of_mem _ (List.mem_append_right _ h)))
  have wd0 := hts (.fieldLink RX12 375 "StoryDeskModel" "valued" "I") (List.mem_cons_of_mem _ (List.mem_append_left _ lm0))
  have wd1 := hts (.fieldLink RX12 369 "StoryDeskModel" "signed" "I") (List.mem_cons_of_mem _ (List.mem_append_left _ lm1))
  have wd2 := hts (.fieldLink RX12 372 "StoryDeskModel" "values" "[I") (List.mem_cons_of_mem _ (List.mem_append_left _ lm3))
  have wd3 := hts (.fieldLink RX12 366 "StoryDeskModel" "signs" "[C") (List.mem_cons_of_mem _ (List.mem_append_left _ lm2))
  have hl : lv_has ls 9 [(0, .ref (g 36)), (1, .ref (g 416)), (2, .int x), (3, .int z), (4, .int y)] := hl
  have hK : va_K D vwCl (hT ka) s := hK
  have hg_1 := s_rng y
  refine lv_iload_n hx hb dX12_test_0 rfl (lv_at hl 3 rfl) ?_
  refine lv_bipush (v := 40) hx hb dX12_test_1 (by decide) ?_
  refine lv_icmp_le (tgt := 8) hx hb dX12_test_3 (by decide) (fun c_2 => ?_) (fun c_2 => ?_)
  · skip
    have h_3 := s_le (rfl : z.toInt = _) (show (40 : Int32).toInt = 40 from rfl) c_2
    refine lv_aload_n hx hb dX12_test_8 rfl (lv_at hl 0 rfl) ?_
    refine lv_iconst (v := 0) hx hb dX12_test_9 (by decide) ?_
    have hO_4 := okp hO (n := 36) (k := 65) (v := 0) (show (0 : Int) ≤ (0 : Int32).toInt ∧ (0 : Int32).toInt ≤ 42 from ⟨by decide, by decide⟩)
    refine h_puti (ty := .int) (ci := 12) (C := RX12) (F := TX12) (N := 86) hx hb hts in12 tyX12 tyX12_ok nmX12 hown hK hH hS (by decide) (rfl : kd 36 = 12) (by decide) rfl 65 (by decide) wd0 (fun _ h9 => h9) rfl (by decide +kernel) rfl rfl (by decide) rfl dX12_test_10 (fun H locs hH hS => ?_)
    refine lv_aload_n hx hb dX12_test_13 rfl (lv_at hl 0 rfl) ?_
    refine lv_iconst (v := 0) hx hb dX12_test_14 (by decide) ?_
    have hO_5 := okp hO_4 (n := 36) (k := 66) (v := 0) (show (0 : Int) ≤ (0 : Int32).toInt ∧ (0 : Int32).toInt ≤ 42 from ⟨by decide, by decide⟩)
    refine h_puti (ty := .int) (ci := 12) (C := RX12) (F := TX12) (N := 86) hx hb hts in12 tyX12 tyX12_ok nmX12 hown hK hH hS (by decide) (rfl : kd 36 = 12) (by decide) rfl 66 (by decide) wd1 (fun _ h9 => h9) rfl (by decide +kernel) rfl rfl (by decide) rfl dX12_test_15 (fun H locs hH hS => ?_)
    refine lv_iconst (v := 1) hx hb dX12_test_18 (by decide) ?_
    refine lv_istore (lv' := [(5, .int 1), (0, .ref (g 36)), (1, .ref (g 416)), (2, .int x), (3, .int z), (4, .int y)]) hx hb dX12_test_19 hl (by decide) rfl (fun ls hl => ?_)
    refine lv_iconst (v := 1) hx hb dX12_test_21 (by decide) ?_
    refine lv_istore (lv' := [(6, .int 1), (5, .int 1), (0, .ref (g 36)), (1, .ref (g 416)), (2, .int x), (3, .int z), (4, .int y)]) hx hb dX12_test_22 hl (by decide) rfl (fun ls hl => ?_)
    refine lv_iload_n hx hb dX12_test_24 rfl (lv_at hl 4 rfl) ?_
    refine lv_istore (lv' := [(7, .int x), (6, .int 1), (5, .int 1), (0, .ref (g 36)), (1, .ref (g 416)), (2, .int x), (3, .int z), (4, .int y)]) hx hb dX12_test_25 hl (by decide) rfl (fun ls hl => ?_)
    -- loop at 27
    have lp_6 : ∀ (fuel_lp_6 : Nat) (k : Int32) (u : Int32) (em : Int32) (j1 : Nat → Nat → Int32) (H : Heap) (locs : List Loc) (ls : Array Slot), (x.toInt + z.toInt - k.toInt).toNat < fuel_lp_6 → (0 : Int) ≤ k.toInt ∧ k.toInt ≤ 520 → (0 : Int) ≤ u.toInt ∧ u.toInt ≤ 1 → (0 : Int) ≤ em.toInt ∧ em.toInt ≤ 1 → x.toInt ≤ k.toInt ∧ k.toInt ≤ x.toInt + z.toInt ∧ (j1 36 66).toInt ≤ k.toInt - x.toInt ∧ 0 ≤ (j1 36 66).toInt → mr (tb y) (tgL (i 416) (k).toInt.toNat (x.toInt + z.toInt - (k).toInt).toNat) (decide ((u : Int32).toInt = 1)) (stkV (j1 418) (j1 36 65).toInt.toNat) (stkS (j1 419) (j1 36 66).toInt.toNat) = mr (tb y) (tgL (i 416) x.toInt.toNat z.toInt.toNat) true [] [] → ((u.toInt = 1 → (j1 36 65).toInt = (nbS (stkS (j1 419) (j1 36 66).toInt.toNat) : Int)) ∧ (u.toInt = 0 → (j1 36 65).toInt = (nbS (stkS (j1 419) (j1 36 66).toInt.toNat) : Int) + 1)) → ((em : Int32).toInt = 1 ∧ sqz (tgL (i 416) x.toInt.toNat ((k).toInt - x.toInt).toNat) = [] ∧ (u : Int32).toInt = 1) ∨ ((em : Int32).toInt = 0 ∧ sqz (tgL (i 416) x.toInt.toNat ((k).toInt - x.toInt).toNat) ≠ []) → OkI j1 → (∀ a b, ¬ ((a = 36 ∧ (b = 65 ∨ b = 66)) ∨ a = 418 ∨ a = 419) → j1 a b = (up2 (up2 i 36 65 0) 36 66 0) a b) → lv_has ls 9 [(7, .int k), (6, .int em), (5, .int u), (0, .ref (g 36)), (1, .ref (g 416)), (2, .int x), (3, .int z), (4, .int y)] → sj_H D A (hwc g ka j1 r L d) H → va_S A s.heap H locs → W p l e (headSpec wsX12_test ({ frames := 3, cells := 0, slots := 0, locals := 63 })).room s m ([.ref (g 36), .ref (g 416), .int x, .int z, .int y] : List Value).toArray below meth c H locs 0 0 (MQ below (sj_Qi (S := (Nat → Nat → Int32)) D (fun v u => OkI u ∧ (∀ a b, ¬ ((a = 36 ∧ (b = 65 ∨ b = 66)) ∨ a = 418 ∨ a = 419) → u a b = i a b) ∧ ((-1 : Int) ≤ v.toInt ∧ v.toInt ≤ 1) ∧ (40 < z.toInt → v.toInt = -1) ∧ (z.toInt ≤ 40 → sqz (tgL (i 416) x.toInt.toNat z.toInt.toNat) = [] → v.toInt = 1) ∧ (z.toInt ≤ 40 → sqz (tgL (i 416) x.toInt.toNat z.toInt.toNat) ≠ [] → ((mr (tb y) (tgL (i 416) x.toInt.toNat z.toInt.toNat) true [] [] = none → v.toInt = -1) ∧ (∀ b : Bool, mr (tb y) (tgL (i 416) x.toInt.toNat z.toInt.toNat) true [] [] = some b → v.toInt = (if b then 1 else 0))))) (fun u => hwc g ka u r L d) (fun _ => []) A) ([.ref (g 36), .ref (g 416), .int x, .int z, .int y] : List Value).toArray s 0 0 A) (F0 m 27 ls []) := by
      intro fuel_lp_6
      induction fuel_lp_6 with
      | zero => intros; omega
      | succ fuel_lp_6 ih_lp_6 =>
        intro k u em j1 H locs ls hm hr_k hr_u hr_em hi_lp_6_0 hi_lp_6_1 hi_lp_6_2 hi_lp_6_3 hO_j1 hfr_j1 hl hH hS
        refine lv_iload hx hb dX12_test_27 (lv_at hl 0 rfl) ?_
        refine lv_iload_n hx hb dX12_test_29 rfl (lv_at hl 5 rfl) ?_
        refine lv_iload_n hx hb dX12_test_30 rfl (lv_at hl 6 rfl) ?_
        refine lv_iadd hx hb dX12_test_31 ?_
        obtain ⟨z_7, ez_7, hz_7⟩ := s_add (rfl : x.toInt = _) (rfl : z.toInt = _) (by omega) (by omega)
        refine sj_i ez_7 ?_
        refine lv_icmp_ge (tgt := 131) hx hb dX12_test_32 (by decide) (fun c_8 => ?_) (fun c_8 => ?_)
        · skip
          have h_9 := s_le (rfl : z_7.toInt = _) (rfl : k.toInt = _) c_8
          refine lv_iload hx hb dX12_test_131 (lv_at hl 1 rfl) ?_
          refine lv_if_eq (tgt := 138) hx hb dX12_test_133 (by decide) (fun c_10 => ?_) (fun c_10 => ?_)
          · skip
            have h_11 := s_eq (rfl : em.toInt = _) (show (0 : Int32).toInt = 0 from rfl) c_10
            refine lv_iload hx hb dX12_test_138 (lv_at hl 2 rfl) ?_
            refine lv_if_eq (tgt := 145) hx hb dX12_test_140 (by decide) (fun c_12 => ?_) (fun c_12 => ?_)
            · skip
              have h_13 := s_eq (rfl : u.toInt = _) (show (0 : Int32).toInt = 0 from rfl) c_12
              -- loop at 145
              have lp_14 : ∀ (fuel_lp_14 : Nat)  (j2 : Nat → Nat → Int32) (H : Heap) (locs : List Loc) (ls : Array Slot), ((j2 36 66).toInt).toNat < fuel_lp_14 → 0 ≤ (j2 36 66).toInt ∧ (j2 36 66).toInt ≤ 40 → mfin (stkV (j2 418) (j2 36 65).toInt.toNat) (stkS (j1 419) (j2 36 66).toInt.toNat) = mr (tb y) (tgL (i 416) x.toInt.toNat z.toInt.toNat) true [] [] → (j2 36 65).toInt = (nbS (stkS (j1 419) (j2 36 66).toInt.toNat) : Int) + 1 → OkI j2 → (∀ a b, ¬ ((a = 36 ∧ (b = 65 ∨ b = 66)) ∨ a = 418) → j2 a b = j1 a b) → lv_has ls 9 [(7, .int k), (6, .int em), (5, .int u), (0, .ref (g 36)), (1, .ref (g 416)), (2, .int x), (3, .int z), (4, .int y)] → sj_H D A (hwc g ka j2 r L d) H → va_S A s.heap H locs → W p l e (headSpec wsX12_test ({ frames := 3, cells := 0, slots := 0, locals := 63 })).room s m ([.ref (g 36), .ref (g 416), .int x, .int z, .int y] : List Value).toArray below meth c H locs 0 0 (MQ below (sj_Qi (S := (Nat → Nat → Int32)) D (fun v u => OkI u ∧ (∀ a b, ¬ ((a = 36 ∧ (b = 65 ∨ b = 66)) ∨ a = 418 ∨ a = 419) → u a b = i a b) ∧ ((-1 : Int) ≤ v.toInt ∧ v.toInt ≤ 1) ∧ (40 < z.toInt → v.toInt = -1) ∧ (z.toInt ≤ 40 → sqz (tgL (i 416) x.toInt.toNat z.toInt.toNat) = [] → v.toInt = 1) ∧ (z.toInt ≤ 40 → sqz (tgL (i 416) x.toInt.toNat z.toInt.toNat) ≠ [] → ((mr (tb y) (tgL (i 416) x.toInt.toNat z.toInt.toNat) true [] [] = none → v.toInt = -1) ∧ (∀ b : Bool, mr (tb y) (tgL (i 416) x.toInt.toNat z.toInt.toNat) true [] [] = some b → v.toInt = (if b then 1 else 0))))) (fun u => hwc g ka u r L d) (fun _ => []) A) ([.ref (g 36), .ref (g 416), .int x, .int z, .int y] : List Value).toArray s 0 0 A) (F0 m 145 ls []) := by
                intro fuel_lp_14
                induction fuel_lp_14 with
                | zero => intros; omega
                | succ fuel_lp_14 ih_lp_14 =>
                  intro j2 H locs ls hm hi_lp_14_0 hi_lp_14_1 hi_lp_14_2 hO_j2 hfr_j2 hl hH hS
                  refine lv_aload_n hx hb dX12_test_145 rfl (lv_at hl 3 rfl) ?_
                  have bx_15 : (0 : Int) ≤ (j2 36 66).toInt ∧ (j2 36 66).toInt ≤ 42 := hO_j2 36 66
                  refine h_geti (ci := 12) (C := RX12) (F := TX12) (N := 86) hx hb hts in12 hown hK hH (by decide) (rfl : kd 36 = 12) (by decide) rfl 66 (by decide) wd1 (fun _ h9 => h9) (by decide) rfl dX12_test_146 ?_
                  refine lv_if_le (tgt := 177) hx hb dX12_test_149 (by decide) (fun c_16 => ?_) (fun c_16 => ?_)
                  · skip
                    have h_17 := s_le (rfl : (j2 36 66).toInt = _) (show (0 : Int32).toInt = 0 from rfl) c_16
                    refine lv_aload_n hx hb dX12_test_177 rfl (lv_at hl 3 rfl) ?_
                    refine h_getr (ci := 12) (C := RX12) (F := TX12) (N := 86) hx hb hts in12 hown hK hH (by decide) (rfl : kd 36 = 12) (by decide) rfl 63 (by decide) wd2 (fun _ h9 => h9) (by decide) rfl (t := 418) (hR 36 63 rfl) (by decide) dX12_test_178 ?_
                    refine lv_iconst (v := 0) hx hb dX12_test_181 (by decide) ?_
                    have bx_18 : (0 : Int) ≤ (j2 418 0).toInt ∧ (j2 418 0).toInt ≤ 1 := hO_j2 418 0
                    refine h_iald hx hb hK hH (by decide) (rfl : kd 418 = 13) (s_vin (N := 42) (show (0 : Int32).toInt = 0 from rfl) (rfl : ln 418 = 42) (by omega) (by omega)) dX12_test_182 ?_
                    refine sj_i (y := (j2 418 0)) rfl ?_
                    have hne : sqz (tgL (i 416) x.toInt.toNat z.toInt.toNat) ≠ [] := by
                        rcases hi_lp_6_3 with q | ⟨_, q⟩
                        · exfalso; omega
                        · rw [show (k.toInt - x.toInt).toNat = z.toInt.toNat by omega] at q
                          exact q
                    exact sj_zret hx hb hr hlocks rfl hS j2 ⟨hO_j2, (fun a b ha => ((hfr_j2 a b (by omega)).trans ((hfr_j1 a b (by omega)).trans ((up2_o _ _ (by omega)).trans (up2_o _ _ (by omega)))))), ⟨by omega, by omega⟩, (fun h => by omega), (fun _ q => absurd q hne), (fun _ _ => by
                              have h9 := hi_lp_14_1
                              have hn2 := hi_lp_14_2
                              rw [show (j2 36 66).toInt.toNat = 0 by omega] at h9 hn2
                              have hn3 : (j2 36 65).toInt = 1 := hn2
                              rw [hn3] at h9
                              have h8 : some (decide ((j2 418 0).toInt = 1)) = mr (tb y) (tgL (i 416) x.toInt.toNat z.toInt.toNat) true [] [] := h9
                              refine ⟨fun q => ?_, fun b hb => ?_⟩
                              · rw [q] at h8; exact absurd h8 (by simp)
                              · rw [hb] at h8
                                have h7 := Option.some.inj h8
                                subst h7
                                by_cases q : (j2 418 0).toInt = 1
                                · simp [q]
                                · simp [q]; omega)⟩ hH (sj_Knil hK) (Nat.le_of_ble_eq_true rfl) (Nat.le_of_ble_eq_true rfl) dX12_test_183
                  · skip
                    have h_19 := s_nle (rfl : (j2 36 66).toInt = _) (show (0 : Int32).toInt = 0 from rfl) c_16
                    refine lv_aload_n hx hb dX12_test_152 rfl (lv_at hl 3 rfl) ?_
                    refine h_getr (ci := 12) (C := RX12) (F := TX12) (N := 86) hx hb hts in12 hown hK hH (by decide) (rfl : kd 36 = 12) (by decide) rfl 64 (by decide) wd3 (fun _ h9 => h9) (by decide) rfl (t := 419) (hR 36 64 rfl) (by decide) dX12_test_153 ?_
                    refine lv_aload_n hx hb dX12_test_156 rfl (lv_at hl 3 rfl) ?_
                    refine h_geti (ci := 12) (C := RX12) (F := TX12) (N := 86) hx hb hts in12 hown hK hH (by decide) (rfl : kd 36 = 12) (by decide) rfl 66 (by decide) wd1 (fun _ h9 => h9) (by decide) rfl dX12_test_157 ?_
                    refine lv_iconst (v := 1) hx hb dX12_test_160 (by decide) ?_
                    refine lv_isub hx hb dX12_test_161 ?_
                    obtain ⟨z_20, ez_20, hz_20⟩ := s_sub (rfl : (j2 36 66).toInt = _) (show (1 : Int32).toInt = 1 from rfl) (by omega) (by omega)
                    refine sj_i ez_20 ?_
                    have bx_21 : (0 : Int) ≤ (j1 419 ((j2 36 66).toInt - 1).toNat).toInt ∧ (j1 419 ((j2 36 66).toInt - 1).toNat).toInt ≤ 65535 := hO_j1 419 ((j2 36 66).toInt - 1).toNat
                    refine h_cald hx hb hK hH (by decide) (rfl : kd 419 = 14) (s_vin (N := 42) (rfl : z_20.toInt = _) (rfl : ln 419 = 42) (by omega) (by omega)) dX12_test_162 ?_
                    have ek_22 : z_20.toNatClampNeg = ((j2 36 66).toInt - 1).toNat := (s_cl (show z_20.toInt = (j2 36 66).toInt - 1 by omega))
                    refine sj_i (y := (j1 419 ((j2 36 66).toInt - 1).toNat)) (by rw [ek_22]; exact (hfr_j2 419 ((j2 36 66).toInt - 1).toNat (by omega))) ?_
                    refine lv_bipush (v := 40) hx hb dX12_test_163 (by decide) ?_
                    refine lv_icmp_ne (tgt := 170) hx hb dX12_test_165 (by decide) (fun c_23 => ?_) (fun c_23 => ?_)
                    · skip
                      have h_24 := s_ne (rfl : (j1 419 ((j2 36 66).toInt - 1).toNat).toInt = _) (show (40 : Int32).toInt = 40 from rfl) c_23
                      refine lv_aload_n hx hb dX12_test_170 rfl (lv_at hl 3 rfl) ?_
                      have hj9 : (j2 419 ((j2 36 66).toInt - 1).toNat).toInt = (j1 419 ((j2 36 66).toInt - 1).toNat).toInt := congrArg Int32.toInt (hfr_j2 419 ((j2 36 66).toInt - 1).toNat (by omega))
                      have hSs := stkS_s (f := j1 419) (n := (j2 36 66).toInt) (m := ((j2 36 66).toInt - 1).toNat) (by omega)
                      have hnb := nbS_or (j1 419 ((j2 36 66).toInt - 1).toNat).toInt (stkS (j1 419) ((j2 36 66).toInt - 1).toNat)
                      rw [← hSs] at hnb
                      have hn2 := hi_lp_14_2
                      refine x_callv (va_runV (As := []) (rest := []) ⟨hx, hb, hml, hown, hts⟩ (m_applyTop l D g ka ad j2 r L d  hO_j2 hR H.size (by first | omega | decide) (by first | omega | decide)) (cwV 0 hts gX12_test_X12_applyTop rfl rfl rfl (by decide +kernel) ⟨(Nat.le_of_ble_eq_true rfl), (Nat.le_of_ble_eq_true rfl)⟩) (x_preV (q := (RX12, TX12, 86)) hH hK (q_obj (by decide) (rfl : kd 36 = 12) (by decide)) rfl gxb (gxw hE hS (x_F hH hS hA))) rfl rfl hl.1 rfl (lv_room (Nat.le_of_ble_eq_true rfl)) dX12_test_171 ⟨(Nat.le_of_ble_eq_true rfl), (Nat.le_of_ble_eq_true rfl)⟩) hH hS hA rfl rfl (fun im_27 H locs hw_26 hH hS => ?_)
                      have hH : sj_H D A (hwc g ka im_27 r L d) H := hH
                      obtain ⟨hO_29, hfr_28, he_30, hx2_31⟩ := hw_26
                      refine lv_goto (tgt := 145) hx hb dX12_test_174 (by decide) ?_
                      have hbs9 : (0 : Int) ≤ (im_27 36 66).toInt ∧ (im_27 36 66).toInt ≤ 42 := hO_29 36 66
                      exact ih_lp_14  _ _ _ ls (by omega) ⟨by omega, by omega⟩ (by
                                have h9 := hi_lp_14_1
                                rw [hSs, mfin_go (by omega)] at h9
                                rw [hx2_31, hj9, show (im_27 36 66).toInt.toNat = ((j2 36 66).toInt - 1).toNat by omega]
                                exact h9) (by rw [show (im_27 36 66).toInt.toNat = ((j2 36 66).toInt - 1).toNat by omega]; omega) hO_29 (fun a b ha => ((hfr_28 a b (by omega)).trans (hfr_j2 a b (by omega)))) (lv_sub hl [0, 1, 2, 3, 4, 5, 6, 7] rfl) hH hS
                    · skip
                      have h_32 := s_eq (rfl : (j1 419 ((j2 36 66).toInt - 1).toNat).toInt = _) (show (40 : Int32).toInt = 40 from rfl) c_23
                      refine lv_iconst (v := (-1)) hx hb dX12_test_168 (by decide) ?_
                      have hne : sqz (tgL (i 416) x.toInt.toNat z.toInt.toNat) ≠ [] := by
                          rcases hi_lp_6_3 with q | ⟨_, q⟩
                          · exfalso; omega
                          · rw [show (k.toInt - x.toInt).toNat = z.toInt.toNat by omega] at q
                            exact q
                      exact sj_zret hx hb hr hlocks rfl hS j2 ⟨hO_j2, (fun a b ha => ((hfr_j2 a b (by omega)).trans ((hfr_j1 a b (by omega)).trans ((up2_o _ _ (by omega)).trans (up2_o _ _ (by omega)))))), ⟨by decide, by decide⟩, (fun h => by omega), (fun _ q => absurd q hne), (fun _ _ => by
                                have h9 := hi_lp_14_1
                                rw [stkS_s (f := j1 419) (n := (j2 36 66).toInt) (m := ((j2 36 66).toInt - 1).toNat) (by omega), show (j1 419 ((j2 36 66).toInt - 1).toNat).toInt = 40 by omega, mfin_40] at h9
                                exact ⟨fun _ => rfl, fun b hb => by rw [← h9] at hb; exact absurd hb (by simp)⟩)⟩ hH (sj_Knil hK) (Nat.le_of_ble_eq_true rfl) (Nat.le_of_ble_eq_true rfl) dX12_test_169
              have hbs9 : (0 : Int) ≤ (j1 36 66).toInt ∧ (j1 36 66).toInt ≤ 42 := hO_j1 36 66
              exact lp_14 _  _ _ _ ls (Nat.lt_succ_self _) ⟨by omega, by omega⟩ (by
                        have hI := hi_lp_6_1
                        rw [show (x.toInt + z.toInt - k.toInt).toNat = 0 by omega, show decide (u.toInt = 1) = false by simp; omega] at hI
                        exact hI) (hi_lp_6_2.2 (by omega)) hO_j1 (fun a b ha => rfl) (lv_sub hl [0, 1, 2, 3, 4, 5, 6, 7] rfl) hH hS
            · skip
              have h_33 := s_ne (rfl : u.toInt = _) (show (0 : Int32).toInt = 0 from rfl) c_12
              refine lv_iconst (v := (-1)) hx hb dX12_test_143 (by decide) ?_
              have hne : sqz (tgL (i 416) x.toInt.toNat z.toInt.toNat) ≠ [] := by
                  rcases hi_lp_6_3 with q | ⟨_, q⟩
                  · exfalso; omega
                  · rw [show (k.toInt - x.toInt).toNat = z.toInt.toNat by omega] at q
                    exact q
              exact sj_zret hx hb hr hlocks rfl hS j1 ⟨hO_j1, (fun a b ha => ((hfr_j1 a b (by omega)).trans ((up2_o _ _ (by omega)).trans (up2_o _ _ (by omega))))), ⟨by decide, by decide⟩, (fun h => by omega), (fun _ q => absurd q hne), (fun _ _ => by
                        have hI := hi_lp_6_1
                        rw [show (x.toInt + z.toInt - k.toInt).toNat = 0 by omega, show decide (u.toInt = 1) = true by simp; omega] at hI
                        exact ⟨fun _ => rfl, fun b hb => by rw [← hI] at hb; exact absurd hb (by simp [tgL, mr])⟩)⟩ hH (sj_Knil hK) (Nat.le_of_ble_eq_true rfl) (Nat.le_of_ble_eq_true rfl) dX12_test_144
          · skip
            have h_34 := s_ne (rfl : em.toInt = _) (show (0 : Int32).toInt = 0 from rfl) c_10
            refine lv_iconst (v := 1) hx hb dX12_test_136 (by decide) ?_
            exact sj_zret hx hb hr hlocks rfl hS j1 ⟨hO_j1, (fun a b ha => ((hfr_j1 a b (by omega)).trans ((up2_o _ _ (by omega)).trans (up2_o _ _ (by omega))))), ⟨by decide, by decide⟩, (fun h => by omega), (fun _ _ => rfl), (fun _ q => by
                      exfalso
                      rcases hi_lp_6_3 with ⟨_, q2, _⟩ | ⟨q2, _⟩
                      · rw [show (k.toInt - x.toInt).toNat = z.toInt.toNat by omega] at q2
                        exact q q2
                      · omega)⟩ hH (sj_Knil hK) (Nat.le_of_ble_eq_true rfl) (Nat.le_of_ble_eq_true rfl) dX12_test_137
        · skip
          have h_35 := s_nle (rfl : z_7.toInt = _) (rfl : k.toInt = _) c_8
          refine lv_aload_n hx hb dX12_test_35 rfl (lv_at hl 4 rfl) ?_
          refine lv_iload hx hb dX12_test_36 (lv_at hl 0 rfl) ?_
          have bx_36 : (0 : Int) ≤ (i 416 (k.toInt).toNat).toInt ∧ (i 416 (k.toInt).toNat).toInt ≤ 65535 := hO 416 (k.toInt).toNat
          have hLs : (tgL (i 416) (k).toInt.toNat (x.toInt + z.toInt - (k).toInt).toNat) = (i 416 (k.toInt).toNat).toInt :: tgL (i 416) (k.toInt.toNat + 1) (x.toInt + z.toInt - k.toInt - 1).toNat := by
              rw [show (x.toInt + z.toInt - k.toInt).toNat = (x.toInt + z.toInt - k.toInt - 1).toNat + 1 by omega]; rfl
          have hI := hi_lp_6_1
          rw [hLs] at hI
          have hsn := sqz_snoc (i 416) x.toInt.toNat (k.toInt - x.toInt).toNat
          rw [show x.toInt.toNat + (k.toInt - x.toInt).toNat = (k.toInt).toNat by omega, show (k.toInt - x.toInt).toNat + 1 = (k.toInt + 1 - x.toInt).toNat by omega] at hsn
          have hnl := nbS_len (stkS (j1 419) (j1 36 66).toInt.toNat)
          rw [stkS_len] at hnl
          have hi2 := hi_lp_6_2
          refine h_cald hx hb hK hH (by decide) (rfl : kd 416 = 14) (s_vin (N := 360) (rfl : k.toInt = _) (rfl : ln 416 = 360) (by omega) (by omega)) dX12_test_38 ?_
          have ek_37 : k.toNatClampNeg = (k.toInt).toNat := (s_cl (show k.toInt = k.toInt by omega))
          refine sj_i (y := (i 416 (k.toInt).toNat)) (by rw [ek_37]; exact ((hfr_j1 416 (k.toInt).toNat (by omega)).trans ((congrFun (up2_n _ _ (by decide)) _).trans (congrFun (up2_n _ _ (by decide)) _)))) ?_
          refine lv_istore (lv' := [(8, .int (i 416 (k.toInt).toNat)), (7, .int k), (6, .int em), (5, .int u), (0, .ref (g 36)), (1, .ref (g 416)), (2, .int x), (3, .int z), (4, .int y)]) hx hb dX12_test_39 hl (by decide) rfl (fun ls hl => ?_)
          refine lv_iload hx hb dX12_test_41 (lv_at hl 0 rfl) ?_
          refine lv_bipush (v := 32) hx hb dX12_test_43 (by decide) ?_
          refine lv_icmp_ne (tgt := 51) hx hb dX12_test_45 (by decide) (fun c_38 => ?_) (fun c_38 => ?_)
          · skip
            have h_39 := s_ne (rfl : (i 416 (k.toInt).toNat).toInt = _) (show (32 : Int32).toInt = 32 from rfl) c_38
            refine lv_iconst (v := 0) hx hb dX12_test_51 (by decide) ?_
            refine lv_istore (lv' := [(6, .int 0), (8, .int (i 416 (k.toInt).toNat)), (7, .int k), (5, .int u), (0, .ref (g 36)), (1, .ref (g 416)), (2, .int x), (3, .int z), (4, .int y)]) hx hb dX12_test_52 hl (by decide) rfl (fun ls hl => ?_)
            refine lv_iload hx hb dX12_test_54 (lv_at hl 3 rfl) ?_
            refine lv_if_eq (tgt := 73) hx hb dX12_test_56 (by decide) (fun c_40 => ?_) (fun c_40 => ?_)
            · skip
              have h_41 := s_eq (rfl : u.toInt = _) (show (0 : Int32).toInt = 0 from rfl) c_40
              refine lv_aload_n hx hb dX12_test_73 rfl (lv_at hl 4 rfl) ?_
              refine lv_iload hx hb dX12_test_74 (lv_at hl 1 rfl) ?_
              refine x_calli (va_runV (As := [.int (i 416 (k.toInt).toNat)]) (rest := []) ⟨hx, hb, hml, hown, hts⟩ (m_operator l D g ka ad j1 r L d (i 416 (k.toInt).toNat) hO_j1 hR H.size (by first | omega | decide) (by first | omega | decide) (by first | omega | decide) (by first | omega | decide)) (cwV 1 hts gX12_test_X12_operator rfl rfl rfl (by decide +kernel) ⟨(Nat.le_of_ble_eq_true rfl), (Nat.le_of_ble_eq_true rfl)⟩) (x_preV (q := (RX12, TX12, 86)) hH hK (q_obj (by decide) (rfl : kd 36 = 12) (by decide)) rfl gxb (gxw hE hS (x_F hH hS hA))) rfl rfl hl.1 rfl (lv_room (Nat.le_of_ble_eq_true rfl)) dX12_test_76 ⟨(Nat.le_of_ble_eq_true rfl), (Nat.le_of_ble_eq_true rfl)⟩) hH hS hA rfl rfl (fun r_42 im_44 H locs hw_43 hH hS => ?_)
              have hH : sj_H D A (hwc g ka im_44 r L d) H := hH
              obtain ⟨hO_46, hfr_45, hr_47, he_48, hx2_49, hx2_50, hx2_51⟩ := hw_43
              have hr_47 : (0 : Int) ≤ r_42.toInt ∧ r_42.toInt ≤ 1 := hr_47
              refine lv_if_ne (tgt := 84) hx hb dX12_test_79 (by decide) (fun c_52 => ?_) (fun c_52 => ?_)
              · skip
                have h_53 := s_ne (rfl : r_42.toInt = _) (show (0 : Int32).toInt = 0 from rfl) c_52
                refine lv_iload hx hb dX12_test_84 (lv_at hl 3 rfl) ?_
                refine lv_if_eq (tgt := 111) hx hb dX12_test_86 (by decide) (fun _ => ?_) (fun h => absurd (p_eq (rfl : u.toInt = _) (show (0 : Int32).toInt = 0 from rfl) (by omega)) h)
                refine lv_iload hx hb dX12_test_111 (lv_at hl 1 rfl) ?_
                refine lv_bipush (v := 41) hx hb dX12_test_113 (by decide) ?_
                refine lv_icmp_eq (tgt := 122) hx hb dX12_test_115 (by decide) (fun c_54 => ?_) (fun c_54 => ?_)
                · skip
                  have h_55 := s_eq (rfl : (i 416 (k.toInt).toNat).toInt = _) (show (41 : Int32).toInt = 41 from rfl) c_54
                  refine lv_iconst (v := 0) hx hb dX12_test_122 (by decide) ?_
                  refine lv_istore (lv' := [(5, .int 0), (6, .int 0), (8, .int (i 416 (k.toInt).toNat)), (7, .int k), (0, .ref (g 36)), (1, .ref (g 416)), (2, .int x), (3, .int z), (4, .int y)]) hx hb dX12_test_123 hl (by decide) rfl (fun ls hl => ?_)
                  obtain ⟨z_56, ez_56, hz_56⟩ := s_add (rfl : k.toInt = _) (show (1 : Int32).toInt = 1 from rfl) (by omega) (by omega)
                  refine lv_iinc (v := z_56) (lv' := [(7, .int z_56), (5, .int 0), (6, .int 0), (8, .int (i 416 (k.toInt).toNat)), (0, .ref (g 36)), (1, .ref (g 416)), (2, .int x), (3, .int z), (4, .int y)]) hx hb dX12_test_125 hl (k := 3) rfl ez_56 (by decide) rfl (fun ls hl => ?_)
                  refine lv_goto (tgt := 27) hx hb dX12_test_128 (by decide) ?_
                  have hl_57 : (0 : Int32).toInt = 0 := rfl
                  have hl_58 : (0 : Int32).toInt = 0 := rfl
                  have hbs9 : (0 : Int) ≤ (im_44 36 66).toInt ∧ (im_44 36 66).toInt ≤ 42 := hO_46 36 66
                  have hz0 : (0 : Int32).toInt = 0 := rfl
                  have hz1 : (1 : Int32).toInt = 1 := rfl
                  exact ih_lp_6 z_56 0 0 _ _ _ ls (by omega) (by omega) (by omega) (by omega) ⟨by omega, by omega, by omega, by omega⟩ (by
                            rw [show (z_56).toInt.toNat = k.toInt.toNat + 1 by omega, show (x.toInt + z.toInt - (z_56).toInt).toNat = (x.toInt + z.toInt - k.toInt - 1).toNat by omega]
                            rw [show decide ((0 : Int32).toInt = 1) = false from rfl]
                            have h9 := hx2_50 (by omega)
                            rcases h9 with h9 | ⟨_, c8, s8, h8, h7⟩
                            · exfalso; omega
                            · have hb0 : bnd (i 416 (k.toInt).toNat).toInt = 0 := by rw [show (i 416 (k.toInt).toNat).toInt = 41 by omega]; rfl
                              rw [hb0] at h8 h7
                              rw [show decide (u.toInt = 1) = false by simp; omega, show (i 416 (k.toInt).toNat).toInt = 41 by omega, mr_close1 h8 h7] at hI
                              exact hI) (by
                            have h9 := hx2_51 (by omega)
                            exact ⟨fun q => absurd q (by decide), fun q => h9.2 (by omega)⟩) (Or.inr ⟨rfl, by rw [show (z_56).toInt = k.toInt + 1 by omega, hsn, if_neg (by omega)]; simp⟩) hO_46 (fun a b ha => ((hfr_45 a b (by omega)).trans (hfr_j1 a b (by omega)))) (lv_sub hl [0, 2, 1, 4, 5, 6, 7, 8] rfl) hH hS
                · skip
                  have h_59 := s_ne (rfl : (i 416 (k.toInt).toNat).toInt = _) (show (41 : Int32).toInt = 41 from rfl) c_54
                  refine lv_iconst (v := 1) hx hb dX12_test_118 (by decide) ?_
                  refine lv_goto (tgt := 123) hx hb dX12_test_119 (by decide) ?_
                  refine lv_istore (lv' := [(5, .int 1), (6, .int 0), (8, .int (i 416 (k.toInt).toNat)), (7, .int k), (0, .ref (g 36)), (1, .ref (g 416)), (2, .int x), (3, .int z), (4, .int y)]) hx hb dX12_test_123 hl (by decide) rfl (fun ls hl => ?_)
                  obtain ⟨z_60, ez_60, hz_60⟩ := s_add (rfl : k.toInt = _) (show (1 : Int32).toInt = 1 from rfl) (by omega) (by omega)
                  refine lv_iinc (v := z_60) (lv' := [(7, .int z_60), (5, .int 1), (6, .int 0), (8, .int (i 416 (k.toInt).toNat)), (0, .ref (g 36)), (1, .ref (g 416)), (2, .int x), (3, .int z), (4, .int y)]) hx hb dX12_test_125 hl (k := 3) rfl ez_60 (by decide) rfl (fun ls hl => ?_)
                  refine lv_goto (tgt := 27) hx hb dX12_test_128 (by decide) ?_
                  have hl_61 : (1 : Int32).toInt = 1 := rfl
                  have hl_62 : (0 : Int32).toInt = 0 := rfl
                  have hbs9 : (0 : Int) ≤ (im_44 36 66).toInt ∧ (im_44 36 66).toInt ≤ 42 := hO_46 36 66
                  have hz0 : (0 : Int32).toInt = 0 := rfl
                  have hz1 : (1 : Int32).toInt = 1 := rfl
                  exact ih_lp_6 z_60 1 0 _ _ _ ls (by omega) (by omega) (by omega) (by omega) ⟨by omega, by omega, by omega, by omega⟩ (by
                            rw [show (z_60).toInt.toNat = k.toInt.toNat + 1 by omega, show (x.toInt + z.toInt - (z_60).toInt).toNat = (x.toInt + z.toInt - k.toInt - 1).toNat by omega]
                            rw [show decide ((1 : Int32).toInt = 1) = true from rfl]
                            rw [show decide (u.toInt = 1) = false by simp; omega, mr_op (by omega)] at hI
                            have h9 := hx2_49 (by omega)
                            rw [h9.2.1, h9.2.2]
                            exact hI) (by
                            have h9 := hx2_51 (by omega)
                            exact ⟨fun q => h9.1 (by omega), fun q => absurd q (by decide)⟩) (Or.inr ⟨rfl, by rw [show (z_60).toInt = k.toInt + 1 by omega, hsn, if_neg (by omega)]; simp⟩) hO_46 (fun a b ha => ((hfr_45 a b (by omega)).trans (hfr_j1 a b (by omega)))) (lv_sub hl [0, 2, 1, 4, 5, 6, 7, 8] rfl) hH hS
              · skip
                have h_63 := s_eq (rfl : r_42.toInt = _) (show (0 : Int32).toInt = 0 from rfl) c_52
                refine lv_iconst (v := (-1)) hx hb dX12_test_82 (by decide) ?_
                have hno : mr (tb y) (tgL (i 416) x.toInt.toNat z.toInt.toNat) true [] [] = none := by
                    have g1 : ¬ ((i 416 (k.toInt).toNat).toInt = 38 ∨ (i 416 (k.toInt).toNat).toInt = 124) := fun q => by have := (hx2_49 q).1; omega
                    rw [show decide (u.toInt = 1) = false by simp; omega] at hI
                    by_cases g2 : (i 416 (k.toInt).toNat).toInt = 41
                    · have h9 := hx2_50 g2
                      rcases h9 with ⟨_, h9⟩ | ⟨h9, _⟩
                      · rw [show bnd (i 416 (k.toInt).toNat).toInt = 0 by rw [g2]; rfl] at h9
                        rw [g2, mr_close0 h9] at hI
                        exact hI.symm
                      · exfalso; omega
                    · rw [mr_badF (by omega) (by omega) (by omega) g2] at hI
                      exact hI.symm
                have hne : sqz (tgL (i 416) x.toInt.toNat z.toInt.toNat) ≠ [] := sqz_pre (n := (k.toInt + 1 - x.toInt).toNat) (by omega) (by rw [hsn, if_neg (by omega)]; simp)
                exact sj_zret hx hb hr hlocks rfl hS im_44 ⟨hO_46, (fun a b ha => ((hfr_45 a b (by omega)).trans ((hfr_j1 a b (by omega)).trans ((up2_o _ _ (by omega)).trans (up2_o _ _ (by omega)))))), ⟨by decide, by decide⟩, (fun h => by omega), (fun _ q => absurd q hne), (fun _ _ => ⟨fun _ => rfl, fun b hb => by rw [hno] at hb; exact absurd hb (by simp)⟩)⟩ hH (sj_Knil hK) (Nat.le_of_ble_eq_true rfl) (Nat.le_of_ble_eq_true rfl) dX12_test_83
            · skip
              have h_64 := s_ne (rfl : u.toInt = _) (show (0 : Int32).toInt = 0 from rfl) c_40
              refine lv_aload_n hx hb dX12_test_59 rfl (lv_at hl 4 rfl) ?_
              refine lv_iload hx hb dX12_test_60 (lv_at hl 1 rfl) ?_
              refine lv_iload hx hb dX12_test_62 (lv_at hl 8 rfl) ?_
              refine x_calli (va_runV (As := [.int (i 416 (k.toInt).toNat), .int y]) (rest := []) ⟨hx, hb, hml, hown, hts⟩ (m_operand l D g ka ad j1 r L d (i 416 (k.toInt).toNat) y hO_j1 hR H.size (by first | omega | decide) (by first | omega | decide) (by first | omega | decide) (by first | omega | decide)) (cwV 2 hts gX12_test_X12_operand rfl rfl rfl (by decide +kernel) ⟨(Nat.le_of_ble_eq_true rfl), (Nat.le_of_ble_eq_true rfl)⟩) (x_preV (q := (RX12, TX12, 86)) hH hK (q_obj (by decide) (rfl : kd 36 = 12) (by decide)) rfl gxb (gxw hE hS (x_F hH hS hA))) rfl rfl hl.1 rfl (lv_room (Nat.le_of_ble_eq_true rfl)) dX12_test_64 ⟨(Nat.le_of_ble_eq_true rfl), (Nat.le_of_ble_eq_true rfl)⟩) hH hS hA rfl rfl (fun r_65 im_67 H locs hw_66 hH hS => ?_)
              have hH : sj_H D A (hwc g ka im_67 r L d) H := hH
              obtain ⟨hO_69, hfr_68, hr_70, he_71, hx2_72, hx2_73⟩ := hw_66
              have hr_70 : (0 : Int) ≤ r_65.toInt ∧ r_65.toInt ≤ 1 := hr_70
              refine lv_if_ne (tgt := 84) hx hb dX12_test_67 (by decide) (fun c_74 => ?_) (fun c_74 => ?_)
              · skip
                have h_75 := s_ne (rfl : r_65.toInt = _) (show (0 : Int32).toInt = 0 from rfl) c_74
                refine lv_iload hx hb dX12_test_84 (lv_at hl 3 rfl) ?_
                refine lv_if_eq (tgt := 111) hx hb dX12_test_86 (by decide) (fun h => absurd h (p_ne (rfl : u.toInt = _) (show (0 : Int32).toInt = 0 from rfl) (by omega))) (fun _ => ?_)
                refine lv_iload hx hb dX12_test_89 (lv_at hl 1 rfl) ?_
                refine lv_bipush (v := 33) hx hb dX12_test_91 (by decide) ?_
                refine lv_icmp_eq (tgt := 103) hx hb dX12_test_93 (by decide) (fun c_76 => ?_) (fun c_76 => ?_)
                · skip
                  have h_77 := s_eq (rfl : (i 416 (k.toInt).toNat).toInt = _) (show (33 : Int32).toInt = 33 from rfl) c_76
                  refine lv_iconst (v := 1) hx hb dX12_test_103 (by decide) ?_
                  refine lv_goto (tgt := 123) hx hb dX12_test_104 (by decide) ?_
                  refine lv_istore (lv' := [(5, .int 1), (6, .int 0), (8, .int (i 416 (k.toInt).toNat)), (7, .int k), (0, .ref (g 36)), (1, .ref (g 416)), (2, .int x), (3, .int z), (4, .int y)]) hx hb dX12_test_123 hl (by decide) rfl (fun ls hl => ?_)
                  obtain ⟨z_78, ez_78, hz_78⟩ := s_add (rfl : k.toInt = _) (show (1 : Int32).toInt = 1 from rfl) (by omega) (by omega)
                  refine lv_iinc (v := z_78) (lv' := [(7, .int z_78), (5, .int 1), (6, .int 0), (8, .int (i 416 (k.toInt).toNat)), (0, .ref (g 36)), (1, .ref (g 416)), (2, .int x), (3, .int z), (4, .int y)]) hx hb dX12_test_125 hl (k := 3) rfl ez_78 (by decide) rfl (fun ls hl => ?_)
                  refine lv_goto (tgt := 27) hx hb dX12_test_128 (by decide) ?_
                  have hl_79 : (1 : Int32).toInt = 1 := rfl
                  have hl_80 : (0 : Int32).toInt = 0 := rfl
                  have hbs9 : (0 : Int) ≤ (im_67 36 66).toInt ∧ (im_67 36 66).toInt ≤ 42 := hO_69 36 66
                  have hz0 : (0 : Int32).toInt = 0 := rfl
                  have hz1 : (1 : Int32).toInt = 1 := rfl
                  exact ih_lp_6 z_78 1 0 _ _ _ ls (by omega) (by omega) (by omega) (by omega) ⟨by omega, by omega, by omega, by omega⟩ (by
                            rw [show (z_78).toInt.toNat = k.toInt.toNat + 1 by omega, show (x.toInt + z.toInt - (z_78).toInt).toNat = (x.toInt + z.toInt - k.toInt - 1).toNat by omega]
                            rw [show decide ((1 : Int32).toInt = 1) = true from rfl]
                            rw [show decide (u.toInt = 1) = true by simp; omega, mr_push (by omega)] at hI
                            have h9 := hx2_72 (by omega)
                            rw [h9.2.1, h9.2.2]
                            exact hI) (by
                            have h9 := hx2_72 (by omega)
                            rw [h9.2.2]
                            have := nbS_or (i 416 (k.toInt).toNat).toInt (stkS (j1 419) (j1 36 66).toInt.toNat)
                            exact ⟨fun _ => by omega, fun q => absurd q (by decide)⟩) (Or.inr ⟨rfl, by rw [show (z_78).toInt = k.toInt + 1 by omega, hsn, if_neg (by omega)]; simp⟩) hO_69 (fun a b ha => ((hfr_68 a b (by omega)).trans (hfr_j1 a b (by omega)))) (lv_sub hl [0, 2, 1, 4, 5, 6, 7, 8] rfl) hH hS
                · skip
                  have h_81 := s_ne (rfl : (i 416 (k.toInt).toNat).toInt = _) (show (33 : Int32).toInt = 33 from rfl) c_76
                  refine lv_iload hx hb dX12_test_96 (lv_at hl 1 rfl) ?_
                  refine lv_bipush (v := 40) hx hb dX12_test_98 (by decide) ?_
                  refine lv_icmp_ne (tgt := 107) hx hb dX12_test_100 (by decide) (fun c_82 => ?_) (fun c_82 => ?_)
                  · skip
                    have h_83 := s_ne (rfl : (i 416 (k.toInt).toNat).toInt = _) (show (40 : Int32).toInt = 40 from rfl) c_82
                    refine lv_iconst (v := 0) hx hb dX12_test_107 (by decide) ?_
                    refine lv_goto (tgt := 123) hx hb dX12_test_108 (by decide) ?_
                    refine lv_istore (lv' := [(5, .int 0), (6, .int 0), (8, .int (i 416 (k.toInt).toNat)), (7, .int k), (0, .ref (g 36)), (1, .ref (g 416)), (2, .int x), (3, .int z), (4, .int y)]) hx hb dX12_test_123 hl (by decide) rfl (fun ls hl => ?_)
                    obtain ⟨z_84, ez_84, hz_84⟩ := s_add (rfl : k.toInt = _) (show (1 : Int32).toInt = 1 from rfl) (by omega) (by omega)
                    refine lv_iinc (v := z_84) (lv' := [(7, .int z_84), (5, .int 0), (6, .int 0), (8, .int (i 416 (k.toInt).toNat)), (0, .ref (g 36)), (1, .ref (g 416)), (2, .int x), (3, .int z), (4, .int y)]) hx hb dX12_test_125 hl (k := 3) rfl ez_84 (by decide) rfl (fun ls hl => ?_)
                    refine lv_goto (tgt := 27) hx hb dX12_test_128 (by decide) ?_
                    have hl_85 : (0 : Int32).toInt = 0 := rfl
                    have hl_86 : (0 : Int32).toInt = 0 := rfl
                    have hbs9 : (0 : Int) ≤ (im_67 36 66).toInt ∧ (im_67 36 66).toInt ≤ 42 := hO_69 36 66
                    have hz0 : (0 : Int32).toInt = 0 := rfl
                    have hz1 : (1 : Int32).toInt = 1 := rfl
                    exact ih_lp_6 z_84 0 0 _ _ _ ls (by omega) (by omega) (by omega) (by omega) ⟨by omega, by omega, by omega, by omega⟩ (by
                              rw [show (z_84).toInt.toNat = k.toInt.toNat + 1 by omega, show (x.toInt + z.toInt - (z_84).toInt).toNat = (x.toInt + z.toInt - k.toInt - 1).toNat by omega]
                              rw [show decide ((0 : Int32).toInt = 1) = false from rfl]
                              rw [show decide (u.toInt = 1) = true by simp; omega, mr_let (by omega) (by omega)] at hI
                              have h9 := hx2_73 (by omega) (by omega)
                              rw [h9.2] at hI
                              exact hI) (by
                              have h9 := hx2_73 (by omega) (by omega)
                              have h8 := mneg_nb (stkS (j1 419) (j1 36 66).toInt.toNat) (tb y (i 416 (k.toInt).toNat).toInt :: (stkV (j1 418) (j1 36 65).toInt.toNat))
                              rw [h9.2] at h8
                              dsimp only at h8
                              exact ⟨fun q => absurd q (by decide), fun _ => by omega⟩) (Or.inr ⟨rfl, by rw [show (z_84).toInt = k.toInt + 1 by omega, hsn, if_neg (by omega)]; simp⟩) hO_69 (fun a b ha => ((hfr_68 a b (by omega)).trans (hfr_j1 a b (by omega)))) (lv_sub hl [0, 2, 1, 4, 5, 6, 7, 8] rfl) hH hS
                  · skip
                    have h_87 := s_eq (rfl : (i 416 (k.toInt).toNat).toInt = _) (show (40 : Int32).toInt = 40 from rfl) c_82
                    refine lv_iconst (v := 1) hx hb dX12_test_103 (by decide) ?_
                    refine lv_goto (tgt := 123) hx hb dX12_test_104 (by decide) ?_
                    refine lv_istore (lv' := [(5, .int 1), (6, .int 0), (8, .int (i 416 (k.toInt).toNat)), (7, .int k), (0, .ref (g 36)), (1, .ref (g 416)), (2, .int x), (3, .int z), (4, .int y)]) hx hb dX12_test_123 hl (by decide) rfl (fun ls hl => ?_)
                    obtain ⟨z_88, ez_88, hz_88⟩ := s_add (rfl : k.toInt = _) (show (1 : Int32).toInt = 1 from rfl) (by omega) (by omega)
                    refine lv_iinc (v := z_88) (lv' := [(7, .int z_88), (5, .int 1), (6, .int 0), (8, .int (i 416 (k.toInt).toNat)), (0, .ref (g 36)), (1, .ref (g 416)), (2, .int x), (3, .int z), (4, .int y)]) hx hb dX12_test_125 hl (k := 3) rfl ez_88 (by decide) rfl (fun ls hl => ?_)
                    refine lv_goto (tgt := 27) hx hb dX12_test_128 (by decide) ?_
                    have hl_89 : (1 : Int32).toInt = 1 := rfl
                    have hl_90 : (0 : Int32).toInt = 0 := rfl
                    have hbs9 : (0 : Int) ≤ (im_67 36 66).toInt ∧ (im_67 36 66).toInt ≤ 42 := hO_69 36 66
                    have hz0 : (0 : Int32).toInt = 0 := rfl
                    have hz1 : (1 : Int32).toInt = 1 := rfl
                    exact ih_lp_6 z_88 1 0 _ _ _ ls (by omega) (by omega) (by omega) (by omega) ⟨by omega, by omega, by omega, by omega⟩ (by
                              rw [show (z_88).toInt.toNat = k.toInt.toNat + 1 by omega, show (x.toInt + z.toInt - (z_88).toInt).toNat = (x.toInt + z.toInt - k.toInt - 1).toNat by omega]
                              rw [show decide ((1 : Int32).toInt = 1) = true from rfl]
                              rw [show decide (u.toInt = 1) = true by simp; omega, mr_push (by omega)] at hI
                              have h9 := hx2_72 (by omega)
                              rw [h9.2.1, h9.2.2]
                              exact hI) (by
                              have h9 := hx2_72 (by omega)
                              rw [h9.2.2]
                              have := nbS_or (i 416 (k.toInt).toNat).toInt (stkS (j1 419) (j1 36 66).toInt.toNat)
                              exact ⟨fun _ => by omega, fun q => absurd q (by decide)⟩) (Or.inr ⟨rfl, by rw [show (z_88).toInt = k.toInt + 1 by omega, hsn, if_neg (by omega)]; simp⟩) hO_69 (fun a b ha => ((hfr_68 a b (by omega)).trans (hfr_j1 a b (by omega)))) (lv_sub hl [0, 2, 1, 4, 5, 6, 7, 8] rfl) hH hS
              · skip
                have h_91 := s_eq (rfl : r_65.toInt = _) (show (0 : Int32).toInt = 0 from rfl) c_74
                refine lv_goto (tgt := 82) hx hb dX12_test_70 (by decide) ?_
                refine lv_iconst (v := (-1)) hx hb dX12_test_82 (by decide) ?_
                have hno : mr (tb y) (tgL (i 416) x.toInt.toNat z.toInt.toNat) true [] [] = none := by
                    have g1 : ¬ ((i 416 (k.toInt).toNat).toInt = 33 ∨ (i 416 (k.toInt).toNat).toInt = 40) := fun q => by have := (hx2_72 q).1; omega
                    have g2 : ¬ (97 ≤ (i 416 (k.toInt).toNat).toInt ∧ (i 416 (k.toInt).toNat).toInt ≤ 112) := fun q => by have := (hx2_73 q.1 q.2).1; omega
                    rw [show decide (u.toInt = 1) = true by simp; omega, mr_badT (by omega) (by omega) (by omega) (by omega)] at hI
                    exact hI.symm
                have hne : sqz (tgL (i 416) x.toInt.toNat z.toInt.toNat) ≠ [] := sqz_pre (n := (k.toInt + 1 - x.toInt).toNat) (by omega) (by rw [hsn, if_neg (by omega)]; simp)
                exact sj_zret hx hb hr hlocks rfl hS im_67 ⟨hO_69, (fun a b ha => ((hfr_68 a b (by omega)).trans ((hfr_j1 a b (by omega)).trans ((up2_o _ _ (by omega)).trans (up2_o _ _ (by omega)))))), ⟨by decide, by decide⟩, (fun h => by omega), (fun _ q => absurd q hne), (fun _ _ => ⟨fun _ => rfl, fun b hb => by rw [hno] at hb; exact absurd hb (by simp)⟩)⟩ hH (sj_Knil hK) (Nat.le_of_ble_eq_true rfl) (Nat.le_of_ble_eq_true rfl) dX12_test_83
          · skip
            have h_92 := s_eq (rfl : (i 416 (k.toInt).toNat).toInt = _) (show (32 : Int32).toInt = 32 from rfl) c_38
            refine lv_goto (tgt := 125) hx hb dX12_test_48 (by decide) ?_
            obtain ⟨z_93, ez_93, hz_93⟩ := s_add (rfl : k.toInt = _) (show (1 : Int32).toInt = 1 from rfl) (by omega) (by omega)
            refine lv_iinc (v := z_93) (lv' := [(7, .int z_93), (8, .int (i 416 (k.toInt).toNat)), (6, .int em), (5, .int u), (0, .ref (g 36)), (1, .ref (g 416)), (2, .int x), (3, .int z), (4, .int y)]) hx hb dX12_test_125 hl (k := 1) rfl ez_93 (by decide) rfl (fun ls hl => ?_)
            refine lv_goto (tgt := 27) hx hb dX12_test_128 (by decide) ?_
            have hbs9 : (0 : Int) ≤ (j1 36 66).toInt ∧ (j1 36 66).toInt ≤ 42 := hO_j1 36 66
            have hz0 : (0 : Int32).toInt = 0 := rfl
            have hz1 : (1 : Int32).toInt = 1 := rfl
            exact ih_lp_6 z_93 u em _ _ _ ls (by omega) (by omega) (by omega) (by omega) ⟨by omega, by omega, by omega, by omega⟩ (by
                      rw [show (z_93).toInt.toNat = k.toInt.toNat + 1 by omega, show (x.toInt + z.toInt - (z_93).toInt).toNat = (x.toInt + z.toInt - k.toInt - 1).toNat by omega]
                      rw [show (i 416 (k.toInt).toNat).toInt = 32 by omega, mr_blank] at hI
                      exact hI) hi_lp_6_2 (by rw [show (z_93).toInt = k.toInt + 1 by omega, hsn, if_pos (by omega), List.append_nil]; exact hi_lp_6_3) hO_j1 (fun a b ha => (hfr_j1 a b (by omega))) (lv_sub hl [0, 2, 3, 4, 5, 6, 7, 8] rfl) hH hS
    have hl_94 : (1 : Int32).toInt = 1 := rfl
    have hl_95 : (1 : Int32).toInt = 1 := rfl
    have hbs9 : (0 : Int) ≤ ((up2 (up2 i 36 65 0) 36 66 0) 36 66).toInt ∧ ((up2 (up2 i 36 65 0) 36 66 0) 36 66).toInt ≤ 42 := hO_5 36 66
    have hw_96 : ((up2 (up2 i 36 65 0) 36 66 0) 36 65).toInt = (0 : Int32).toInt := congrArg Int32.toInt (((up2_k _ _ (by decide)).trans (up2_at _ _ _ _)))
    have hw_97 : ((up2 (up2 i 36 65 0) 36 66 0) 36 66).toInt = (0 : Int32).toInt := congrArg Int32.toInt ((up2_at _ _ _ _))
    have hz0 : (0 : Int32).toInt = 0 := rfl
    have hz1 : (1 : Int32).toInt = 1 := rfl
    exact lp_6 _ x 1 1 _ _ _ ls (Nat.lt_succ_self _) (by omega) (by omega) (by omega) ⟨by omega, by omega, by omega, by omega⟩ (by rw [show (x.toInt + z.toInt - x.toInt).toNat = z.toInt.toNat by omega, show ((up2 (up2 i 36 65 0) 36 66 0) 36 65).toInt.toNat = 0 by omega, show ((up2 (up2 i 36 65 0) 36 66 0) 36 66).toInt.toNat = 0 by omega]; rfl) (by rw [show ((up2 (up2 i 36 65 0) 36 66 0) 36 66).toInt.toNat = 0 by omega, show stkS ((up2 (up2 i 36 65 0) 36 66 0) 419) 0 = [] from rfl]; exact ⟨fun _ => by show _ = (0 : Int); omega, fun q => absurd q (by decide)⟩) (Or.inl ⟨rfl, by rw [show (x.toInt - x.toInt).toNat = 0 by omega]; rfl, rfl⟩) hO_5 (fun a b ha => rfl) (lv_sub hl [0, 1, 2, 3, 4, 5, 6, 7] rfl) hH hS
  · skip
    have h_98 := s_nle (rfl : z.toInt = _) (show (40 : Int32).toInt = 40 from rfl) c_2
    refine lv_iconst (v := (-1)) hx hb dX12_test_6 (by decide) ?_
    exact sj_zret hx hb hr hlocks rfl hS i ⟨hO, (fun a b ha => rfl), ⟨by decide, by decide⟩, (fun _ => rfl), (fun h => by exfalso; omega), (fun h => by exfalso; omega)⟩ hH (sj_Knil hK) (Nat.le_of_ble_eq_true rfl) (Nat.le_of_ble_eq_true rfl) dX12_test_7
