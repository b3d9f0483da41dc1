/-- the buffer holds what came before k -/
def flP (f ct cs : Nat → Int32) (st len nm cells rw_ : Int) (j : Nat → Nat → Int32) (k : Int) : Prop := ∀ (u : Nat) (t : List Int), flR f ct cs st len nm cells rw_ u k t → ∃ (w : Nat) (m : List Int), flR f ct cs st len nm cells rw_ w 0 m ∧ (bfL j ++ t).take 60 = m.take 60
def bfA (b j : Nat → Nat → Int32) (l : List Int) : Prop := ∀ R : List Int, (bfL j ++ R).take 60 = (bfL b ++ (l ++ R)).take 60
section FLP
variable {f ct cs : Nat → Int32} {st len nm cells rw_ k : Int} {j j' : Nat → Nat → Int32}
theorem flP_0 (h : (j 36 40).toInt = 0) : flP f ct cs st len nm cells rw_ j 0 := fun u t ht => ⟨u, t, ht, by
  have e : bfL j = [] := by unfold bfL; rw [h]; rfl
  rw [e]; rfl⟩
theorem flP_e (h : flP f ct cs st len nm cells rw_ j k) (hk : len ≤ k) (hl : (bfL j).length ≤ 60) : ∃ (w : Nat) (m : List Int), flR f ct cs st len nm cells rw_ w 0 m ∧ bfL j = m.take 60 := by
  obtain ⟨w, m, h1, h2⟩ := h 0 [] ⟨hk, rfl⟩
  rw [List.append_nil, List.take_of_length_le hl] at h2
  exact ⟨w, m, h1, h2⟩
theorem flP_c (h : flP f ct cs st len nm cells rw_ j k) (hk : k < len) (hc : (nm < 0 ∨ (f (st + k).toNat).toInt ≠ 60) ∨ nmR f ct cs st len (k + 1) nm cells (-1)) {k2 : Int} (h2 : k2 = k + 1) (ha : bfA j j' [(f (st + k).toNat).toInt]) : flP f ct cs st len nm cells rw_ j' k2 := by
  subst h2
  intro u t ht
  obtain ⟨w, m, h1, h3⟩ := h (u + 1) ((f (st + k).toNat).toInt :: t) (Or.inr ⟨hk, Or.inl ⟨hc, t, ht, rfl⟩⟩)
  exact ⟨w, m, h1, (ha t).trans h3⟩
theorem flP_n (h : flP f ct cs st len nm cells rw_ j k) (hk : k < len) (h0 : 0 ≤ nm) (hc : (f (st + k).toNat).toInt = 60) {n : Int} (hn : 0 ≤ n) (hr : nmR f ct cs st len (k + 1) nm cells n) {k2 : Int} (h2 : k2 = k + (2 + (cs (4 * nm + n).toNat).toInt)) (ha : bfA j j' (tgL ct (60 * (4 * rw_ + n)).toNat (cs (4 * rw_ + n).toNat).toInt.toNat)) : flP f ct cs st len nm cells rw_ j' k2 := by
  subst h2
  intro u t ht
  obtain ⟨w, m, h1, h3⟩ := h (u + 1) _ (Or.inr ⟨hk, Or.inr ⟨h0, hc, n, hn, hr, t, ht, rfl⟩⟩)
  exact ⟨w, m, h1, (ha t).trans h3⟩
theorem bfA_0 (b : Nat → Nat → Int32) : bfA b b [] := fun R => rfl
theorem bfA_s {b i u : Nat → Nat → Int32} {l l2 : List Int} {x : Int} (h : bfA b i l) (hx : ((i 36 40).toInt = 60 ∧ u = i) ∨ ((i 36 40).toInt ≠ 60 ∧ (u 36 40).toInt = (i 36 40).toInt + 1 ∧ (u 402 (i 36 40).toInt.toNat).toInt = x ∧ ∀ k : Nat, k ≠ (i 36 40).toInt.toNat → u 402 k = i 402 k)) (h0 : 0 ≤ (i 36 40).toInt) (e : l2 = l ++ [x]) : bfA b u l2 := by
  subst e
  intro R
  rw [bf_add hx h0 R, h (x :: R), List.append_assoc]; rfl
end FLP
theorem dX12_fill_0 : decode cX12_fill 0 = .ok (.aload_n 0, 1) := by decide +kernel
theorem dX12_fill_1 : decode cX12_fill 1 = .ok (.iconst 0, 1) := by decide +kernel
theorem dX12_fill_2 : decode cX12_fill 2 = .ok (.putfield 224, 3) := by decide +kernel
theorem dX12_fill_5 : decode cX12_fill 5 = .ok (.iconst 0, 1) := by decide +kernel
theorem dX12_fill_6 : decode cX12_fill 6 = .ok (.istore 6, 2) := by decide +kernel
theorem dX12_fill_8 : decode cX12_fill 8 = .ok (.iload 6, 2) := by decide +kernel
theorem dX12_fill_10 : decode cX12_fill 10 = .ok (.iload_n 3, 1) := by decide +kernel
theorem dX12_fill_11 : decode cX12_fill 11 = .ok (.if_icmp .ge 128, 3) := by decide +kernel
theorem dX12_fill_139 : decode cX12_fill 139 = .ok (.return_, 1) := by decide +kernel
theorem dX12_fill_14 : decode cX12_fill 14 = .ok (.iload 4, 2) := by decide +kernel
theorem dX12_fill_16 : decode cX12_fill 16 = .ok (.ifCond .lt 30, 3) := by decide +kernel
theorem dX12_fill_46 : decode cX12_fill 46 = .ok (.iconst (-1), 1) := by decide +kernel
theorem dX12_fill_47 : decode cX12_fill 47 = .ok (.istore 7, 2) := by decide +kernel
theorem dX12_fill_49 : decode cX12_fill 49 = .ok (.iload 7, 2) := by decide +kernel
theorem dX12_fill_51 : decode cX12_fill 51 = .ok (.ifCond .ge 19, 3) := by decide +kernel
theorem dX12_fill_54 : decode cX12_fill 54 = .ok (.aload_n 0, 1) := by decide +kernel
theorem dX12_fill_55 : decode cX12_fill 55 = .ok (.aload_n 1, 1) := by decide +kernel
theorem dX12_fill_56 : decode cX12_fill 56 = .ok (.iload_n 2, 1) := by decide +kernel
theorem dX12_fill_57 : decode cX12_fill 57 = .ok (.iload 6, 2) := by decide +kernel
theorem dX12_fill_59 : decode cX12_fill 59 = .ok (.iadd, 1) := by decide +kernel
theorem dX12_fill_60 : decode cX12_fill 60 = .ok (.caload, 1) := by decide +kernel
theorem dX12_fill_61 : decode cX12_fill 61 = .ok (.invokevirtual 234, 3) := by decide +kernel
theorem dX12_fill_64 : decode cX12_fill 64 = .ok (.iinc 6 1, 3) := by decide +kernel
theorem dX12_fill_67 : decode cX12_fill 67 = .ok (.goto 69, 3) := by decide +kernel
theorem dX12_fill_136 : decode cX12_fill 136 = .ok (.goto (-128), 3) := by decide +kernel
theorem dX12_fill_19 : decode cX12_fill 19 = .ok (.aload_n 1, 1) := by decide +kernel
theorem dX12_fill_20 : decode cX12_fill 20 = .ok (.iload_n 2, 1) := by decide +kernel
theorem dX12_fill_21 : decode cX12_fill 21 = .ok (.iload 6, 2) := by decide +kernel
theorem dX12_fill_23 : decode cX12_fill 23 = .ok (.iadd, 1) := by decide +kernel
theorem dX12_fill_24 : decode cX12_fill 24 = .ok (.caload, 1) := by decide +kernel
theorem dX12_fill_25 : decode cX12_fill 25 = .ok (.bipush 60, 2) := by decide +kernel
theorem dX12_fill_27 : decode cX12_fill 27 = .ok (.if_icmp .ne 19, 3) := by decide +kernel
theorem dX12_fill_30 : decode cX12_fill 30 = .ok (.aload_n 0, 1) := by decide +kernel
theorem dX12_fill_31 : decode cX12_fill 31 = .ok (.aload_n 1, 1) := by decide +kernel
theorem dX12_fill_32 : decode cX12_fill 32 = .ok (.iload_n 2, 1) := by decide +kernel
theorem dX12_fill_33 : decode cX12_fill 33 = .ok (.iload_n 3, 1) := by decide +kernel
theorem dX12_fill_34 : decode cX12_fill 34 = .ok (.iload 6, 2) := by decide +kernel
theorem dX12_fill_36 : decode cX12_fill 36 = .ok (.iconst 1, 1) := by decide +kernel
theorem dX12_fill_37 : decode cX12_fill 37 = .ok (.iadd, 1) := by decide +kernel
theorem dX12_fill_38 : decode cX12_fill 38 = .ok (.iload 4, 2) := by decide +kernel
theorem dX12_fill_40 : decode cX12_fill 40 = .ok (.invokevirtual 230, 3) := by decide +kernel
theorem dX12_fill_43 : decode cX12_fill 43 = .ok (.goto 4, 3) := by decide +kernel
theorem dX12_fill_70 : decode cX12_fill 70 = .ok (.iconst 4, 1) := by decide +kernel
theorem dX12_fill_71 : decode cX12_fill 71 = .ok (.iload 5, 2) := by decide +kernel
theorem dX12_fill_73 : decode cX12_fill 73 = .ok (.imul, 1) := by decide +kernel
theorem dX12_fill_74 : decode cX12_fill 74 = .ok (.iload 7, 2) := by decide +kernel
theorem dX12_fill_76 : decode cX12_fill 76 = .ok (.iadd, 1) := by decide +kernel
theorem dX12_fill_77 : decode cX12_fill 77 = .ok (.istore 8, 2) := by decide +kernel
theorem dX12_fill_79 : decode cX12_fill 79 = .ok (.iconst 0, 1) := by decide +kernel
theorem dX12_fill_80 : decode cX12_fill 80 = .ok (.istore 9, 2) := by decide +kernel
theorem dX12_fill_82 : decode cX12_fill 82 = .ok (.iload 9, 2) := by decide +kernel
theorem dX12_fill_84 : decode cX12_fill 84 = .ok (.aload_n 0, 1) := by decide +kernel
theorem dX12_fill_85 : decode cX12_fill 85 = .ok (.getfield 93, 3) := by decide +kernel
theorem dX12_fill_88 : decode cX12_fill 88 = .ok (.iload 8, 2) := by decide +kernel
theorem dX12_fill_90 : decode cX12_fill 90 = .ok (.iaload, 1) := by decide +kernel
theorem dX12_fill_91 : decode cX12_fill 91 = .ok (.if_icmp .ge 26, 3) := by decide +kernel
theorem dX12_fill_117 : decode cX12_fill 117 = .ok (.iload 6, 2) := by decide +kernel
theorem dX12_fill_119 : decode cX12_fill 119 = .ok (.iconst 2, 1) := by decide +kernel
theorem dX12_fill_120 : decode cX12_fill 120 = .ok (.aload_n 0, 1) := by decide +kernel
theorem dX12_fill_121 : decode cX12_fill 121 = .ok (.getfield 93, 3) := by decide +kernel
theorem dX12_fill_124 : decode cX12_fill 124 = .ok (.iconst 4, 1) := by decide +kernel
theorem dX12_fill_125 : decode cX12_fill 125 = .ok (.iload 4, 2) := by decide +kernel
theorem dX12_fill_127 : decode cX12_fill 127 = .ok (.imul, 1) := by decide +kernel
theorem dX12_fill_128 : decode cX12_fill 128 = .ok (.iload 7, 2) := by decide +kernel
theorem dX12_fill_130 : decode cX12_fill 130 = .ok (.iadd, 1) := by decide +kernel
theorem dX12_fill_131 : decode cX12_fill 131 = .ok (.iaload, 1) := by decide +kernel
theorem dX12_fill_132 : decode cX12_fill 132 = .ok (.iadd, 1) := by decide +kernel
theorem dX12_fill_133 : decode cX12_fill 133 = .ok (.iadd, 1) := by decide +kernel
theorem dX12_fill_134 : decode cX12_fill 134 = .ok (.istore 6, 2) := by decide +kernel
theorem dX12_fill_94 : decode cX12_fill 94 = .ok (.aload_n 0, 1) := by decide +kernel
theorem dX12_fill_95 : decode cX12_fill 95 = .ok (.aload_n 0, 1) := by decide +kernel
theorem dX12_fill_96 : decode cX12_fill 96 = .ok (.getfield 96, 3) := by decide +kernel
theorem dX12_fill_99 : decode cX12_fill 99 = .ok (.bipush 60, 2) := by decide +kernel
theorem dX12_fill_101 : decode cX12_fill 101 = .ok (.iload 8, 2) := by decide +kernel
theorem dX12_fill_103 : decode cX12_fill 103 = .ok (.imul, 1) := by decide +kernel
theorem dX12_fill_104 : decode cX12_fill 104 = .ok (.iload 9, 2) := by decide +kernel
theorem dX12_fill_106 : decode cX12_fill 106 = .ok (.iadd, 1) := by decide +kernel
theorem dX12_fill_107 : decode cX12_fill 107 = .ok (.caload, 1) := by decide +kernel
theorem dX12_fill_108 : decode cX12_fill 108 = .ok (.invokevirtual 234, 3) := by decide +kernel
theorem dX12_fill_111 : decode cX12_fill 111 = .ok (.iinc 9 1, 3) := by decide +kernel
theorem dX12_fill_114 : decode cX12_fill 114 = .ok (.goto (-32), 3) := by decide +kernel
theorem dX12_load_0 : decode cX12_load 0 = .ok (.aload_n 0, 1) := by decide +kernel
theorem dX12_load_1 : decode cX12_load 1 = .ok (.iload_n 1, 1) := by decide +kernel
theorem dX12_load_2 : decode cX12_load 2 = .ok (.iload_n 2, 1) := by decide +kernel
theorem dX12_load_3 : decode cX12_load 3 = .ok (.invokevirtual 238, 3) := by decide +kernel
theorem dX12_load_6 : decode cX12_load 6 = .ok (.istore_n 3, 1) := by decide +kernel
theorem dX12_load_7 : decode cX12_load 7 = .ok (.aload_n 0, 1) := by decide +kernel
theorem dX12_load_8 : decode cX12_load 8 = .ok (.getfield 102, 3) := by decide +kernel
theorem dX12_load_11 : decode cX12_load 11 = .ok (.iload_n 3, 1) := by decide +kernel
theorem dX12_load_12 : decode cX12_load 12 = .ok (.iaload, 1) := by decide +kernel
theorem dX12_load_13 : decode cX12_load 13 = .ok (.aload_n 0, 1) := by decide +kernel
theorem dX12_load_14 : decode cX12_load 14 = .ok (.getfield 195, 3) := by decide +kernel
theorem dX12_load_17 : decode cX12_load 17 = .ok (.iload_n 1, 1) := by decide +kernel
theorem dX12_load_18 : decode cX12_load 18 = .ok (.iaload, 1) := by decide +kernel
theorem dX12_load_19 : decode cX12_load 19 = .ok (.if_icmp .ne 7, 3) := by decide +kernel
theorem dX12_load_26 : decode cX12_load 26 = .ok (.iconst 0, 1) := by decide +kernel
theorem dX12_load_27 : decode cX12_load 27 = .ok (.istore 4, 2) := by decide +kernel
theorem dX12_load_29 : decode cX12_load 29 = .ok (.aload_n 0, 1) := by decide +kernel
theorem dX12_load_30 : decode cX12_load 30 = .ok (.aload_n 0, 1) := by decide +kernel
theorem dX12_load_31 : decode cX12_load 31 = .ok (.getfield 114, 3) := by decide +kernel
theorem dX12_load_34 : decode cX12_load 34 = .ok (.bipush 60, 2) := by decide +kernel
theorem dX12_load_36 : decode cX12_load 36 = .ok (.iload_n 3, 1) := by decide +kernel
theorem dX12_load_37 : decode cX12_load 37 = .ok (.imul, 1) := by decide +kernel
theorem dX12_load_38 : decode cX12_load 38 = .ok (.aload_n 0, 1) := by decide +kernel
theorem dX12_load_39 : decode cX12_load 39 = .ok (.getfield 111, 3) := by decide +kernel
theorem dX12_load_42 : decode cX12_load 42 = .ok (.iload_n 3, 1) := by decide +kernel
theorem dX12_load_43 : decode cX12_load 43 = .ok (.iaload, 1) := by decide +kernel
theorem dX12_load_44 : decode cX12_load 44 = .ok (.iload 4, 2) := by decide +kernel
theorem dX12_load_46 : decode cX12_load 46 = .ok (.ifCond .eq 12, 3) := by decide +kernel
theorem dX12_load_58 : decode cX12_load 58 = .ok (.iconst (-1), 1) := by decide +kernel
theorem dX12_load_59 : decode cX12_load 59 = .ok (.aload_n 0, 1) := by decide +kernel
theorem dX12_load_60 : decode cX12_load 60 = .ok (.getfield 201, 3) := by decide +kernel
theorem dX12_load_63 : decode cX12_load 63 = .ok (.iload_n 1, 1) := by decide +kernel
theorem dX12_load_64 : decode cX12_load 64 = .ok (.iaload, 1) := by decide +kernel
theorem dX12_load_65 : decode cX12_load 65 = .ok (.invokevirtual 241, 3) := by decide +kernel
theorem dX12_load_68 : decode cX12_load 68 = .ok (.return_, 1) := by decide +kernel
theorem dX12_load_22 : decode cX12_load 22 = .ok (.iconst 1, 1) := by decide +kernel
theorem dX12_load_23 : decode cX12_load 23 = .ok (.goto 4, 3) := by decide +kernel
theorem dX12_load_49 : decode cX12_load 49 = .ok (.aload_n 0, 1) := by decide +kernel
theorem dX12_load_50 : decode cX12_load 50 = .ok (.getfield 198, 3) := by decide +kernel
theorem dX12_load_53 : decode cX12_load 53 = .ok (.iload_n 1, 1) := by decide +kernel
theorem dX12_load_54 : decode cX12_load 54 = .ok (.iaload, 1) := by decide +kernel
theorem dX12_load_55 : decode cX12_load 55 = .ok (.goto 4, 3) := by decide +kernel
theorem dX12_loadCell_0 : decode cX12_loadCell 0 = .ok (.aload_n 0, 1) := by decide +kernel
theorem dX12_loadCell_1 : decode cX12_loadCell 1 = .ok (.getfield 102, 3) := by decide +kernel
theorem dX12_loadCell_4 : decode cX12_loadCell 4 = .ok (.iload_n 2, 1) := by decide +kernel
theorem dX12_loadCell_5 : decode cX12_loadCell 5 = .ok (.iaload, 1) := by decide +kernel
theorem dX12_loadCell_6 : decode cX12_loadCell 6 = .ok (.aload_n 0, 1) := by decide +kernel
theorem dX12_loadCell_7 : decode cX12_loadCell 7 = .ok (.getfield 195, 3) := by decide +kernel
theorem dX12_loadCell_10 : decode cX12_loadCell 10 = .ok (.iload_n 1, 1) := by decide +kernel
theorem dX12_loadCell_11 : decode cX12_loadCell 11 = .ok (.iaload, 1) := by decide +kernel
theorem dX12_loadCell_12 : decode cX12_loadCell 12 = .ok (.if_icmp .ne 7, 3) := by decide +kernel
theorem dX12_loadCell_19 : decode cX12_loadCell 19 = .ok (.iconst 0, 1) := by decide +kernel
theorem dX12_loadCell_20 : decode cX12_loadCell 20 = .ok (.istore 5, 2) := by decide +kernel
theorem dX12_loadCell_22 : decode cX12_loadCell 22 = .ok (.iconst 4, 1) := by decide +kernel
theorem dX12_loadCell_23 : decode cX12_loadCell 23 = .ok (.iload_n 3, 1) := by decide +kernel
theorem dX12_loadCell_24 : decode cX12_loadCell 24 = .ok (.imul, 1) := by decide +kernel
theorem dX12_loadCell_25 : decode cX12_loadCell 25 = .ok (.iload 4, 2) := by decide +kernel
theorem dX12_loadCell_27 : decode cX12_loadCell 27 = .ok (.iadd, 1) := by decide +kernel
theorem dX12_loadCell_28 : decode cX12_loadCell 28 = .ok (.istore 6, 2) := by decide +kernel
theorem dX12_loadCell_30 : decode cX12_loadCell 30 = .ok (.aload_n 0, 1) := by decide +kernel
theorem dX12_loadCell_31 : decode cX12_loadCell 31 = .ok (.aload_n 0, 1) := by decide +kernel
theorem dX12_loadCell_32 : decode cX12_loadCell 32 = .ok (.getfield 96, 3) := by decide +kernel
theorem dX12_loadCell_35 : decode cX12_loadCell 35 = .ok (.bipush 60, 2) := by decide +kernel
theorem dX12_loadCell_37 : decode cX12_loadCell 37 = .ok (.iload 6, 2) := by decide +kernel
theorem dX12_loadCell_39 : decode cX12_loadCell 39 = .ok (.imul, 1) := by decide +kernel
theorem dX12_loadCell_40 : decode cX12_loadCell 40 = .ok (.aload_n 0, 1) := by decide +kernel
theorem dX12_loadCell_41 : decode cX12_loadCell 41 = .ok (.getfield 93, 3) := by decide +kernel
theorem dX12_loadCell_44 : decode cX12_loadCell 44 = .ok (.iload 6, 2) := by decide +kernel
theorem dX12_loadCell_46 : decode cX12_loadCell 46 = .ok (.iaload, 1) := by decide +kernel
theorem dX12_loadCell_47 : decode cX12_loadCell 47 = .ok (.iload 5, 2) := by decide +kernel
theorem dX12_loadCell_49 : decode cX12_loadCell 49 = .ok (.ifCond .eq 12, 3) := by decide +kernel
theorem dX12_loadCell_61 : decode cX12_loadCell 61 = .ok (.iconst (-1), 1) := by decide +kernel
theorem dX12_loadCell_62 : decode cX12_loadCell 62 = .ok (.aload_n 0, 1) := by decide +kernel
theorem dX12_loadCell_63 : decode cX12_loadCell 63 = .ok (.getfield 201, 3) := by decide +kernel
theorem dX12_loadCell_66 : decode cX12_loadCell 66 = .ok (.iload_n 1, 1) := by decide +kernel
theorem dX12_loadCell_67 : decode cX12_loadCell 67 = .ok (.iaload, 1) := by decide +kernel
theorem dX12_loadCell_68 : decode cX12_loadCell 68 = .ok (.invokevirtual 241, 3) := by decide +kernel
theorem dX12_loadCell_71 : decode cX12_loadCell 71 = .ok (.return_, 1) := by decide +kernel
theorem dX12_loadCell_15 : decode cX12_loadCell 15 = .ok (.iconst 1, 1) := by decide +kernel
theorem dX12_loadCell_16 : decode cX12_loadCell 16 = .ok (.goto 4, 3) := by decide +kernel
theorem dX12_loadCell_52 : decode cX12_loadCell 52 = .ok (.aload_n 0, 1) := by decide +kernel
theorem dX12_loadCell_53 : decode cX12_loadCell 53 = .ok (.getfield 198, 3) := by decide +kernel
theorem dX12_loadCell_56 : decode cX12_loadCell 56 = .ok (.iload_n 1, 1) := by decide +kernel
theorem dX12_loadCell_57 : decode cX12_loadCell 57 = .ok (.iaload, 1) := by decide +kernel
theorem dX12_loadCell_58 : decode cX12_loadCell 58 = .ok (.goto 4, 3) := by decide +kernel
theorem gw_X12_add : wsX12_add.all goodWord = true := by decide +kernel
theorem gX12_fill_X12_add : GoodIn wsX12_fill (wsV RX12 234 RX12 yX12_add wsX12_add) := goodIn_app (goodIn_sub (List.forall_mem_cons.mpr ⟨(List.mem_cons_of_mem _ (List.mem_append_left _ lm9)), List.forall_mem_cons.mpr ⟨(List.mem_cons_of_mem _ (List.mem_append_left _ lm10)), List.forall_mem_cons.mpr ⟨(List.mem_cons_of_mem _ (List.mem_append_left _ lm11)), List.forall_mem_cons.mpr ⟨(List.mem_cons_of_mem _ (List.mem_append_left _ lm6)), (fun _ h => absurd h List.not_mem_nil)⟩⟩⟩⟩) (by decide +kernel)) (goodIn_sub (by unfold wsX12_add; exact List.forall_mem_cons.mpr ⟨(List.mem_cons_of_mem _ (List.mem_append_left _ lm12)), List.forall_mem_append.mpr ⟨List.forall_mem_cons.mpr ⟨(List.mem_cons_of_mem _ (List.mem_append_left _ lm0)), List.forall_mem_cons.mpr ⟨(List.mem_cons_of_mem _ (List.mem_append_left _ lm13)), (fun _ h => absurd h List.not_mem_nil)⟩⟩, (fun _ h => (List.mem_cons_of_mem _ (List.mem_append_right _ h)))⟩⟩) gw_X12_add)
theorem gw_X12_nameAt : wsX12_nameAt.all goodWord = true := by decide +kernel
theorem gX12_fill_X12_nameAt : GoodIn wsX12_fill (wsV RX12 230 RX12 yX12_nameAt wsX12_nameAt) := goodIn_app (goodIn_sub (List.forall_mem_cons.mpr ⟨(List.mem_cons_of_mem _ (List.mem_append_left _ lm3)), List.forall_mem_cons.mpr ⟨(List.mem_cons_of_mem _ (List.mem_append_left _ lm4)), List.forall_mem_cons.mpr ⟨(List.mem_cons_of_mem _ (List.mem_append_left _ lm5)), List.forall_mem_cons.mpr ⟨(List.mem_cons_of_mem _ (List.mem_append_left _ lm6)), (fun _ h => absurd h List.not_mem_nil)⟩⟩⟩⟩) (by decide +kernel)) (goodIn_sub (by unfold wsX12_nameAt; exact List.forall_mem_cons.mpr ⟨(List.mem_cons_of_mem _ (List.mem_append_left _ lm7)), List.forall_mem_append.mpr ⟨List.forall_mem_cons.mpr ⟨(List.mem_cons_of_mem _ (List.mem_append_left _ lm8)), List.forall_mem_cons.mpr ⟨(List.mem_cons_of_mem _ (List.mem_append_left _ lm1)), List.forall_mem_cons.mpr ⟨(List.mem_cons_of_mem _ (List.mem_append_left _ lm2)), (fun _ h => absurd h List.not_mem_nil)⟩⟩⟩, (fun _ h => (List.mem_cons_of_mem _ (List.mem_append_right _ h)))⟩⟩) gw_X12_nameAt)
theorem gw_X12_caseStep : wsX12_caseStep.all goodWord = true := by decide +kernel
theorem gX12_load_X12_caseStep : GoodIn wsX12_load (wsV RX12 238 RX12 yX12_caseStep wsX12_caseStep) := goodIn_app (goodIn_sub (List.forall_mem_cons.mpr ⟨(List.mem_cons_of_mem _ (List.mem_append_left _ (List.mem_append_left _ lm6))), List.forall_mem_cons.mpr ⟨(List.mem_cons_of_mem _ (List.mem_append_left _ (List.mem_append_left _ lm7))), List.forall_mem_cons.mpr ⟨(List.mem_cons_of_mem _ (List.mem_append_left _ (List.mem_append_left _ lm8))), List.forall_mem_cons.mpr ⟨(List.mem_cons_of_mem _ (List.mem_append_left _ (List.mem_append_left _ lm9))), (fun _ h => absurd h List.not_mem_nil)⟩⟩⟩⟩) (by decide +kernel)) (goodIn_sub (by unfold wsX12_caseStep; exact List.forall_mem_cons.mpr ⟨(List.mem_cons_of_mem _ (List.mem_append_left _ (List.mem_append_left _ lm10))), List.forall_mem_append.mpr ⟨List.forall_mem_cons.mpr ⟨(List.mem_cons_of_mem _ (List.mem_append_left _ (List.mem_append_left _ lm1))), List.forall_mem_cons.mpr ⟨(List.mem_cons_of_mem _ (List.mem_append_left _ (List.mem_append_left _ lm11))), List.forall_mem_cons.mpr ⟨(List.mem_cons_of_mem _ (List.mem_append_left _ (List.mem_append_left _ lm12))), List.forall_mem_cons.mpr ⟨(List.mem_cons_of_mem _ (List.mem_append_left _ (List.mem_append_left _ lm13))), List.forall_mem_cons.mpr ⟨(List.mem_cons_of_mem _ (List.mem_append_left _ (List.mem_append_left _ lm14))), List.forall_mem_cons.mpr ⟨(List.mem_cons_of_mem _ (List.mem_append_left _ (List.mem_append_left _ lm9))), List.forall_mem_cons.mpr ⟨(List.mem_cons_of_mem _ (List.mem_append_left _ (List.mem_append_left _ lm15))), List.forall_mem_cons.mpr ⟨(List.mem_cons_of_mem _ (List.mem_append_left _ (List.mem_append_left _ lm0))), List.forall_mem_cons.mpr ⟨(List.mem_cons_of_mem _ (List.mem_append_left _ (List.mem_append_left _ lm16))), List.forall_mem_cons.mpr ⟨(List.mem_cons_of_mem _ (List.mem_append_left _ (List.mem_append_left _ lm17))), List.forall_mem_cons.mpr ⟨(List.mem_cons_of_mem _ (List.mem_append_left _ (List.mem_append_left _ lm18))), List.forall_mem_cons.mpr ⟨(List.mem_cons_of_mem _ (List.mem_append_left _ (List.mem_append_left _ lm19))), List.forall_mem_cons.mpr ⟨(List.mem_cons_of_mem _ (List.mem_append_left _ (List.mem_append_left _ lm20))), List.forall_mem_cons.mpr ⟨(List.mem_cons_of_mem _ (List.mem_append_left _ (List.mem_append_left _ lm21))), List.forall_mem_cons.mpr ⟨(List.mem_cons_of_mem _ (List.mem_append_left _ (List.mem_append_left _ lm22))), List.forall_mem_cons.mpr ⟨(List.mem_cons_of_mem _ (List.mem_append_left _ (List.mem_append_left _ lm23))), List.forall_mem_cons.mpr ⟨(List.mem_cons_of_mem _ (List.mem_append_left _ (List.mem_append_right _ lm0))), List.forall_mem_cons.mpr ⟨(List.mem_cons_of_mem _ (List.mem_append_left _ (List.mem_append_right _ lm1))), List.forall_mem_cons.mpr ⟨(List.mem_cons_of_mem _ (List.mem_append_left _ (List.mem_append_right _ lm2))), (fun _ h => absurd h List.not_mem_nil)⟩⟩⟩⟩⟩⟩⟩⟩⟩⟩⟩⟩⟩⟩⟩⟩⟩⟩⟩, (fun _ h => (List.mem_cons_of_mem _ (List.mem_append_right _ h)))⟩⟩) gw_X12_caseStep)
theorem gw_X12_fill : wsX12_fill.all goodWord = true := by decide +kernel
theorem gX12_load_X12_fill : GoodIn wsX12_load (wsV RX12 241 RX12 yX12_fill wsX12_fill) := goodIn_app (goodIn_sub (List.forall_mem_cons.mpr ⟨(List.mem_cons_of_mem _ (List.mem_append_left _ (List.mem_append_right _ lm3))), List.forall_mem_cons.mpr ⟨(List.mem_cons_of_mem _ (List.mem_append_left _ (List.mem_append_right _ lm4))), List.forall_mem_cons.mpr ⟨(List.mem_cons_of_mem _ (List.mem_append_left _ (List.mem_append_right _ lm5))), List.forall_mem_cons.mpr ⟨(List.mem_cons_of_mem _ (List.mem_append_left _ (List.mem_append_left _ lm9))), (fun _ h => absurd h List.not_mem_nil)⟩⟩⟩⟩) (by decide +kernel)) (goodIn_sub (by unfold wsX12_fill; exact List.forall_mem_cons.mpr ⟨(List.mem_cons_of_mem _ (List.mem_append_left _ (List.mem_append_right _ lm6))), List.forall_mem_append.mpr ⟨List.forall_mem_cons.mpr ⟨(List.mem_cons_of_mem _ (List.mem_append_left _ (List.mem_append_right _ lm7))), List.forall_mem_cons.mpr ⟨(List.mem_cons_of_mem _ (List.mem_append_left _ (List.mem_append_right _ lm8))), List.forall_mem_cons.mpr ⟨(List.mem_cons_of_mem _ (List.mem_append_left _ (List.mem_append_right _ lm9))), List.forall_mem_cons.mpr ⟨(List.mem_cons_of_mem _ (List.mem_append_left _ (List.mem_append_right _ lm10))), List.forall_mem_cons.mpr ⟨(List.mem_cons_of_mem _ (List.mem_append_left _ (List.mem_append_right _ lm11))), List.forall_mem_cons.mpr ⟨(List.mem_cons_of_mem _ (List.mem_append_left _ (List.mem_append_right _ lm12))), List.forall_mem_cons.mpr ⟨(List.mem_cons_of_mem _ (List.mem_append_left _ (List.mem_append_left _ lm9))), List.forall_mem_cons.mpr ⟨(List.mem_cons_of_mem _ (List.mem_append_left _ (List.mem_append_right _ lm13))), List.forall_mem_cons.mpr ⟨(List.mem_cons_of_mem _ (List.mem_append_left _ (List.mem_append_right _ lm14))), List.forall_mem_cons.mpr ⟨(List.mem_cons_of_mem _ (List.mem_append_left _ (List.mem_append_right _ lm15))), List.forall_mem_cons.mpr ⟨(List.mem_cons_of_mem _ (List.mem_append_left _ (List.mem_append_right _ lm16))), List.forall_mem_cons.mpr ⟨(List.mem_cons_of_mem _ (List.mem_append_left _ (List.mem_append_right _ lm17))), List.forall_mem_cons.mpr ⟨(List.mem_cons_of_mem _ (List.mem_append_left _ (List.mem_append_right _ lm18))), List.forall_mem_cons.mpr ⟨(List.mem_cons_of_mem _ (List.mem_append_left _ (List.mem_append_right _ lm19))), (fun _ h => absurd h List.not_mem_nil)⟩⟩⟩⟩⟩⟩⟩⟩⟩⟩⟩⟩⟩⟩, (fun _ h => (List.mem_cons_of_mem _ (List.mem_append_right _ h)))⟩⟩) gw_X12_fill)
theorem gX12_loadCell_X12_fill : GoodIn wsX12_loadCell (wsV RX12 241 RX12 yX12_fill wsX12_fill) := goodIn_app (goodIn_sub (List.forall_mem_cons.mpr ⟨(List.mem_cons_of_mem _ (List.mem_append_left _ lm6)), List.forall_mem_cons.mpr ⟨(List.mem_cons_of_mem _ (List.mem_append_left _ lm7)), List.forall_mem_cons.mpr ⟨(List.mem_cons_of_mem _ (List.mem_append_left _ lm8)), List.forall_mem_cons.mpr ⟨(List.mem_cons_of_mem _ (List.mem_append_left _ lm9)), (fun _ h => absurd h List.not_mem_nil)⟩⟩⟩⟩) (by decide +kernel)) (goodIn_sub (by unfold wsX12_fill; exact List.forall_mem_cons.mpr ⟨(List.mem_cons_of_mem _ (List.mem_append_left _ lm10)), List.forall_mem_append.mpr ⟨List.forall_mem_cons.mpr ⟨(List.mem_cons_of_mem _ (List.mem_append_left _ lm11)), List.forall_mem_cons.mpr ⟨(List.mem_cons_of_mem _ (List.mem_append_left _ lm3)), List.forall_mem_cons.mpr ⟨(List.mem_cons_of_mem _ (List.mem_append_left _ lm2)), List.forall_mem_cons.mpr ⟨(List.mem_cons_of_mem _ (List.mem_append_left _ lm12)), List.forall_mem_cons.mpr ⟨(List.mem_cons_of_mem _ (List.mem_append_left _ lm13)), List.forall_mem_cons.mpr ⟨(List.mem_cons_of_mem _ (List.mem_append_left _ lm14)), List.forall_mem_cons.mpr ⟨(List.mem_cons_of_mem _ (List.mem_append_left _ lm9)), List.forall_mem_cons.mpr ⟨(List.mem_cons_of_mem _ (List.mem_append_left _ lm15)), List.forall_mem_cons.mpr ⟨(List.mem_cons_of_mem _ (List.mem_append_left _ lm16)), List.forall_mem_cons.mpr ⟨(List.mem_cons_of_mem _ (List.mem_append_left _ lm17)), List.forall_mem_cons.mpr ⟨(List.mem_cons_of_mem _ (List.mem_append_left _ lm18)), List.forall_mem_cons.mpr ⟨(List.mem_cons_of_mem _ (List.mem_append_left _ lm19)), List.forall_mem_cons.mpr ⟨(List.mem_cons_of_mem _ (List.mem_append_left _ lm20)), List.forall_mem_cons.mpr ⟨(List.mem_cons_of_mem _ (List.mem_append_left _ lm21)), (fun _ h => absurd h List.not_mem_nil)⟩⟩⟩⟩⟩⟩⟩⟩⟩⟩⟩⟩⟩⟩, (fun _ h => (List.mem_cons_of_mem _ (List.mem_append_right _ h)))⟩⟩) gw_X12_fill)
set_option maxHeartbeats 2000000 in
set_option maxRecDepth 100000 in
theorem m_fill_s (l : Launch) (D : va_G) (g : Nat → Nat) (ka : Nat → ClassId) (ad : Nat → Nat) (i : Nat → Nat → Int32) (r : Nat → Nat → Nat) (L : Nat → Nat → Int64) (d : Nat → Nat → UInt64) (x : Int32) (y : Int32) (z : Int32) (v4 : Int32) (hO : OkI i) (hR : RS r) (sz : Nat) (hx0 : 0 ≤ x.toInt) (hxy : x.toInt + y.toInt ≤ 1800) (hy0 : 0 ≤ y.toInt) (hy1 : y.toInt ≤ 60) (hz0 : -1 ≤ z.toInt) (hz1 : z.toInt ≤ 39) (hv0 : -1 ≤ v4.toInt) (hv1 : v4.toInt ≤ 39) (hzv : z.toInt < 0 ∨ 0 ≤ v4.toInt) : Met l yX12_fill wsX12_fill ({ frames := 1, cells := 0, slots := 0, locals := 30 }) (va_Pc [.ref (g 36), .ref (g 389), .int x, .int y, .int z, .int v4] (sj_B D (hwc g ka i r L d) (hT ka) sz (gx ad (va_A (hwc g ka i r L d) sz)))) (sj_Qv (S := (Nat → Nat → Int32)) D (fun u => OkI u ∧ (∀ a b, ¬ ((a = 36 ∧ (b = 40)) ∨ a = 402) → u a b = i a b) ∧ (∃ (w : Nat) (m : List Int), flR (i 389) (i 396) (i 395) x.toInt y.toInt z.toInt (i 394 z.toInt.toNat).toInt v4.toInt w 0 m ∧ bfL u = m.take 60)) (fun u => hwc g ka u r L d) (fun _ => []) (va_A (hwc g ka i r L d) sz)) 0 0 (va_A (hwc g ka i r L d) sz) := by
  refine x_met (Ex := gx ad) (cc := cX12_fill) (maxL := 10) (ret := none) (by decide) rfl (Nat.le_of_ble_eq_true rfl) ?_
  intro p e s m below meth c A ls hx hb hr hml hts hown hlocks hA hS hH hK hE hl
  have hown : s.vm.findClass RX12 = some m.cls := hown
  have in12 : ∀ w ∈ wsX120, w ∈ wsX12_fill := (fun _ h => (List.mem_cons_of_mem _ (List.mem_append_right _ h)))
  have wd0 := hts (.fieldLink RX12 224 "StoryDeskModel" "filled" "I") (List.mem_cons_of_mem _ (List.mem_append_left _ lm0))
  have wd1 := hts (.fieldLink RX12 93 "StoryDeskModel" "cellSize" "[I") (List.mem_cons_of_mem _ (List.mem_append_left _ lm1))
  have wd2 := hts (.fieldLink RX12 96 "StoryDeskModel" "cellText" "[C") (List.mem_cons_of_mem _ (List.mem_append_left _ lm2))
  have hl : lv_has ls 10 [(0, .ref (g 36)), (1, .ref (g 389)), (2, .int x), (3, .int y), (4, .int z), (5, .int v4)] := hl
  have hK : va_K D vwCl (hT ka) s := hK
  refine lv_aload_n hx hb dX12_fill_0 rfl (lv_at hl 0 rfl) ?_
  refine lv_iconst (v := 0) hx hb dX12_fill_1 (by decide) ?_
  have hO_1 := okp hO (n := 36) (k := 40) (v := 0) (show (0 : Int) ≤ (0 : Int32).toInt ∧ (0 : Int32).toInt ≤ 60 from ⟨by decide, by decide⟩)
  refine h_puti (ty := .int) (ci := 12) (C := RX12) (F := TX12) (N := 86) hx hb hts in12 tyX12 tyX12_ok nmX12 hown hK hH hS (by decide) (rfl : kd 36 = 12) (by decide) rfl 40 (by decide) wd0 (fun _ h9 => h9) rfl (by decide +kernel) rfl rfl (by decide) rfl dX12_fill_2 (fun H locs hH hS => ?_)
  refine lv_iconst (v := 0) hx hb dX12_fill_5 (by decide) ?_
  refine lv_istore (lv' := [(6, .int 0), (0, .ref (g 36)), (1, .ref (g 389)), (2, .int x), (3, .int y), (4, .int z), (5, .int v4)]) hx hb dX12_fill_6 hl (by decide) rfl (fun ls hl => ?_)
  -- loop at 8
  have lp_2 : ∀ (fuel_lp_2 : Nat) (f : Int32) (j1 : Nat → Nat → Int32) (H : Heap) (locs : List Loc) (ls : Array Slot), (130 - f.toInt).toNat < fuel_lp_2 → (0 : Int) ≤ f.toInt ∧ f.toInt ≤ 130 → flP (i 389) (i 396) (i 395) x.toInt y.toInt z.toInt (i 394 z.toInt.toNat).toInt v4.toInt j1 f.toInt → OkI j1 → (∀ a b, ¬ ((a = 36 ∧ (b = 40)) ∨ a = 402) → j1 a b = (up2 i 36 40 0) a b) → lv_has ls 10 [(6, .int f), (0, .ref (g 36)), (1, .ref (g 389)), (2, .int x), (3, .int y), (4, .int z), (5, .int v4)] → sj_H D A (hwc g ka j1 r L d) H → va_S A s.heap H locs → W p l e (headSpec wsX12_fill ({ frames := 1, cells := 0, slots := 0, locals := 30 })).room s m ([.ref (g 36), .ref (g 389), .int x, .int y, .int z, .int v4] : List Value).toArray below meth c H locs 0 0 (MQ below (sj_Qv (S := (Nat → Nat → Int32)) D (fun u => OkI u ∧ (∀ a b, ¬ ((a = 36 ∧ (b = 40)) ∨ a = 402) → u a b = i a b) ∧ (∃ (w : Nat) (m : List Int), flR (i 389) (i 396) (i 395) x.toInt y.toInt z.toInt (i 394 z.toInt.toNat).toInt v4.toInt w 0 m ∧ bfL u = m.take 60)) (fun u => hwc g ka u r L d) (fun _ => []) A) ([.ref (g 36), .ref (g 389), .int x, .int y, .int z, .int v4] : List Value).toArray s 0 0 A) (F0 m 8 ls []) := by
    intro fuel_lp_2
    induction fuel_lp_2 with
    | zero => intros; omega
    | succ fuel_lp_2 ih_lp_2 =>
      intro f j1 H locs ls hm hr_f hi_lp_2_0 hO_j1 hfr_j1 hl hH hS
      have hch : (i 389 (x.toInt + f.toInt).toNat).toInt = (i 389 (f.toInt + x.toInt).toNat).toInt := congrArg (fun q => (i 389 q).toInt) (by omega)
      refine lv_iload hx hb dX12_fill_8 (lv_at hl 0 rfl) ?_
      refine lv_iload_n hx hb dX12_fill_10 rfl (lv_at hl 4 rfl) ?_
      refine lv_icmp_ge (tgt := 139) hx hb dX12_fill_11 (by decide) (fun c_3 => ?_) (fun c_3 => ?_)
      · skip
        have h_4 := s_le (rfl : y.toInt = _) (rfl : f.toInt = _) c_3
        have hV_5 : ∃ (w : Nat) (m : List Int), flR (i 389) (i 396) (i 395) x.toInt y.toInt z.toInt (i 394 z.toInt.toNat).toInt v4.toInt w 0 m ∧ bfL j1 = m.take 60 := (flP_e hi_lp_2_0 (by omega) (bfL_len hO_j1))
        exact sj_vret hx hb hr hlocks hS j1 ⟨hO_j1, (fun a b ha => ((hfr_j1 a b (by omega)).trans (up2_o _ _ (by omega)))), hV_5⟩ hH (sj_Knil hK) (Nat.le_of_ble_eq_true rfl) (Nat.le_of_ble_eq_true rfl) dX12_fill_139
      · skip
        have h_6 := s_nle (rfl : y.toInt = _) (rfl : f.toInt = _) c_3
        refine lv_iload hx hb dX12_fill_14 (lv_at hl 5 rfl) ?_
        refine lv_if_lt (tgt := 46) hx hb dX12_fill_16 (by decide) (fun c_7 => ?_) (fun c_7 => ?_)
        · skip
          have h_8 := s_lt (rfl : z.toInt = _) (show (0 : Int32).toInt = 0 from rfl) c_7
          refine lv_iconst (v := (-1)) hx hb dX12_fill_46 (by decide) ?_
          refine lv_istore (lv' := [(7, .int (-1)), (6, .int f), (0, .ref (g 36)), (1, .ref (g 389)), (2, .int x), (3, .int y), (4, .int z), (5, .int v4)]) hx hb dX12_fill_47 hl (by decide) rfl (fun ls hl => ?_)
          refine lv_iload hx hb dX12_fill_49 (lv_at hl 0 rfl) ?_
          refine lv_if_ge (tgt := 70) hx hb dX12_fill_51 (by decide) (fun h => absurd h (by decide)) (fun _ => ?_)
          refine lv_aload_n hx hb dX12_fill_54 rfl (lv_at hl 2 rfl) ?_
          refine lv_aload_n hx hb dX12_fill_55 rfl (lv_at hl 3 rfl) ?_
          refine lv_iload_n hx hb dX12_fill_56 rfl (lv_at hl 4 rfl) ?_
          refine lv_iload hx hb dX12_fill_57 (lv_at hl 1 rfl) ?_
          refine lv_iadd hx hb dX12_fill_59 ?_
          obtain ⟨z_9, ez_9, hz_9⟩ := s_add (rfl : x.toInt = _) (rfl : f.toInt = _) (by omega) (by omega)
          refine sj_i ez_9 ?_
          have bx_10 : (0 : Int) ≤ (i 389 (f.toInt + x.toInt).toNat).toInt ∧ (i 389 (f.toInt + x.toInt).toNat).toInt ≤ 65535 := hO 389 (f.toInt + x.toInt).toNat
          refine h_cald hx hb hK hH (by decide) (rfl : kd 389 = 14) (s_vin (N := 1800) (rfl : z_9.toInt = _) (rfl : ln 389 = 1800) (by omega) (by omega)) dX12_fill_60 ?_
          have ek_11 : z_9.toNatClampNeg = (f.toInt + x.toInt).toNat := (s_cl (show z_9.toInt = f.toInt + x.toInt by omega))
          refine sj_i (y := (i 389 (f.toInt + x.toInt).toNat)) (by rw [ek_11]; exact ((hfr_j1 389 (f.toInt + x.toInt).toNat (by omega)).trans (congrFun (up2_n _ _ (by decide)) _))) ?_
          refine x_callv (va_runV (As := [.int (i 389 (f.toInt + x.toInt).toNat)]) (rest := []) ⟨hx, hb, hml, hown, hts⟩ (m_add l D g ka ad j1 r L d (i 389 (f.toInt + x.toInt).toNat) hO_j1 hR H.size (by first | omega | decide) (by first | omega | decide)) (cwV 1 hts gX12_fill_X12_add rfl rfl rfl (by decide +kernel) ⟨(Nat.le_of_ble_eq_true rfl), (Nat.le_of_ble_eq_true rfl)⟩) (x_preV (q := (RX12, TX12, 86)) hH hK (q_obj (by decide) (rfl : kd 36 = 12) (by decide)) rfl gxb (gxw hE hS (x_F hH hS hA))) rfl rfl hl.1 rfl (lv_room (Nat.le_of_ble_eq_true rfl)) dX12_fill_61 ⟨(Nat.le_of_ble_eq_true rfl), (Nat.le_of_ble_eq_true rfl)⟩) hH hS hA rfl rfl (fun im_14 H locs hw_13 hH hS => ?_)
          have hH : sj_H D A (hwc g ka im_14 r L d) H := hH
          obtain ⟨hO_16, hfr_15, hx2_17⟩ := hw_13
          obtain ⟨z_18, ez_18, hz_18⟩ := s_add (rfl : f.toInt = _) (show (1 : Int32).toInt = 1 from rfl) (by omega) (by omega)
          refine lv_iinc (v := z_18) (lv' := [(6, .int z_18), (7, .int (-1)), (0, .ref (g 36)), (1, .ref (g 389)), (2, .int x), (3, .int y), (4, .int z), (5, .int v4)]) hx hb dX12_fill_64 hl (k := 1) rfl ez_18 (by decide) rfl (fun ls hl => ?_)
          refine lv_goto (tgt := 136) hx hb dX12_fill_67 (by decide) ?_
          refine lv_goto (tgt := 8) hx hb dX12_fill_136 (by decide) ?_
          exact ih_lp_2 z_18 _ _ _ ls (by omega) (by omega) (flP_c hi_lp_2_0 (by omega) (Or.inl (by omega)) (by omega) (bfA_s (bfA_0 j1) hx2_17 (hO_j1 36 40).1 (by rw [hch]; rfl))) hO_16 (fun a b ha => ((hfr_15 a b (by omega)).trans (hfr_j1 a b (by omega)))) (lv_sub hl [0, 2, 3, 4, 5, 6, 7] rfl) hH hS
        · skip
          have h_19 := s_nlt (rfl : z.toInt = _) (show (0 : Int32).toInt = 0 from rfl) c_7
          refine lv_aload_n hx hb dX12_fill_19 rfl (lv_at hl 2 rfl) ?_
          refine lv_iload_n hx hb dX12_fill_20 rfl (lv_at hl 3 rfl) ?_
          refine lv_iload hx hb dX12_fill_21 (lv_at hl 0 rfl) ?_
          refine lv_iadd hx hb dX12_fill_23 ?_
          obtain ⟨z_20, ez_20, hz_20⟩ := s_add (rfl : x.toInt = _) (rfl : f.toInt = _) (by omega) (by omega)
          refine sj_i ez_20 ?_
          have bx_21 : (0 : Int) ≤ (i 389 (f.toInt + x.toInt).toNat).toInt ∧ (i 389 (f.toInt + x.toInt).toNat).toInt ≤ 65535 := hO 389 (f.toInt + x.toInt).toNat
          refine h_cald hx hb hK hH (by decide) (rfl : kd 389 = 14) (s_vin (N := 1800) (rfl : z_20.toInt = _) (rfl : ln 389 = 1800) (by omega) (by omega)) dX12_fill_24 ?_
          have ek_22 : z_20.toNatClampNeg = (f.toInt + x.toInt).toNat := (s_cl (show z_20.toInt = f.toInt + x.toInt by omega))
          refine sj_i (y := (i 389 (f.toInt + x.toInt).toNat)) (by rw [ek_22]; exact ((hfr_j1 389 (f.toInt + x.toInt).toNat (by omega)).trans (congrFun (up2_n _ _ (by decide)) _))) ?_
          refine lv_bipush (v := 60) hx hb dX12_fill_25 (by decide) ?_
          refine lv_icmp_ne (tgt := 46) hx hb dX12_fill_27 (by decide) (fun c_23 => ?_) (fun c_23 => ?_)
          · skip
            have h_24 := s_ne (rfl : (i 389 (f.toInt + x.toInt).toNat).toInt = _) (show (60 : Int32).toInt = 60 from rfl) c_23
            refine lv_iconst (v := (-1)) hx hb dX12_fill_46 (by decide) ?_
            refine lv_istore (lv' := [(7, .int (-1)), (6, .int f), (0, .ref (g 36)), (1, .ref (g 389)), (2, .int x), (3, .int y), (4, .int z), (5, .int v4)]) hx hb dX12_fill_47 hl (by decide) rfl (fun ls hl => ?_)
            refine lv_iload hx hb dX12_fill_49 (lv_at hl 0 rfl) ?_
            refine lv_if_ge (tgt := 70) hx hb dX12_fill_51 (by decide) (fun h => absurd h (by decide)) (fun _ => ?_)
            refine lv_aload_n hx hb dX12_fill_54 rfl (lv_at hl 2 rfl) ?_
            refine lv_aload_n hx hb dX12_fill_55 rfl (lv_at hl 3 rfl) ?_
            refine lv_iload_n hx hb dX12_fill_56 rfl (lv_at hl 4 rfl) ?_
            refine lv_iload hx hb dX12_fill_57 (lv_at hl 1 rfl) ?_
            refine lv_iadd hx hb dX12_fill_59 ?_
            obtain ⟨z_25, ez_25, hz_25⟩ := s_add (rfl : x.toInt = _) (rfl : f.toInt = _) (by omega) (by omega)
            refine sj_i ez_25 ?_
            refine h_cald hx hb hK hH (by decide) (rfl : kd 389 = 14) (s_vin (N := 1800) (rfl : z_25.toInt = _) (rfl : ln 389 = 1800) (by omega) (by omega)) dX12_fill_60 ?_
            have ek_26 : z_25.toNatClampNeg = (f.toInt + x.toInt).toNat := (s_cl (show z_25.toInt = f.toInt + x.toInt by omega))
            refine sj_i (y := (i 389 (f.toInt + x.toInt).toNat)) (by rw [ek_26]; exact ((hfr_j1 389 (f.toInt + x.toInt).toNat (by omega)).trans (congrFun (up2_n _ _ (by decide)) _))) ?_
            refine x_callv (va_runV (As := [.int (i 389 (f.toInt + x.toInt).toNat)]) (rest := []) ⟨hx, hb, hml, hown, hts⟩ (m_add l D g ka ad j1 r L d (i 389 (f.toInt + x.toInt).toNat) hO_j1 hR H.size (by first | omega | decide) (by first | omega | decide)) (cwV 1 hts gX12_fill_X12_add rfl rfl rfl (by decide +kernel) ⟨(Nat.le_of_ble_eq_true rfl), (Nat.le_of_ble_eq_true rfl)⟩) (x_preV (q := (RX12, TX12, 86)) hH hK (q_obj (by decide) (rfl : kd 36 = 12) (by decide)) rfl gxb (gxw hE hS (x_F hH hS hA))) rfl rfl hl.1 rfl (lv_room (Nat.le_of_ble_eq_true rfl)) dX12_fill_61 ⟨(Nat.le_of_ble_eq_true rfl), (Nat.le_of_ble_eq_true rfl)⟩) hH hS hA rfl rfl (fun im_29 H locs hw_28 hH hS => ?_)
            have hH : sj_H D A (hwc g ka im_29 r L d) H := hH
            obtain ⟨hO_31, hfr_30, hx2_32⟩ := hw_28
            obtain ⟨z_33, ez_33, hz_33⟩ := s_add (rfl : f.toInt = _) (show (1 : Int32).toInt = 1 from rfl) (by omega) (by omega)
            refine lv_iinc (v := z_33) (lv' := [(6, .int z_33), (7, .int (-1)), (0, .ref (g 36)), (1, .ref (g 389)), (2, .int x), (3, .int y), (4, .int z), (5, .int v4)]) hx hb dX12_fill_64 hl (k := 1) rfl ez_33 (by decide) rfl (fun ls hl => ?_)
            refine lv_goto (tgt := 136) hx hb dX12_fill_67 (by decide) ?_
            refine lv_goto (tgt := 8) hx hb dX12_fill_136 (by decide) ?_
            exact ih_lp_2 z_33 _ _ _ ls (by omega) (by omega) (flP_c hi_lp_2_0 (by omega) (Or.inl (by omega)) (by omega) (bfA_s (bfA_0 j1) hx2_32 (hO_j1 36 40).1 (by rw [hch]; rfl))) hO_31 (fun a b ha => ((hfr_30 a b (by omega)).trans (hfr_j1 a b (by omega)))) (lv_sub hl [0, 2, 3, 4, 5, 6, 7] rfl) hH hS
          · skip
            have h_34 := s_eq (rfl : (i 389 (f.toInt + x.toInt).toNat).toInt = _) (show (60 : Int32).toInt = 60 from rfl) c_23
            refine lv_aload_n hx hb dX12_fill_30 rfl (lv_at hl 1 rfl) ?_
            refine lv_aload_n hx hb dX12_fill_31 rfl (lv_at hl 2 rfl) ?_
            refine lv_iload_n hx hb dX12_fill_32 rfl (lv_at hl 3 rfl) ?_
            refine lv_iload_n hx hb dX12_fill_33 rfl (lv_at hl 4 rfl) ?_
            refine lv_iload hx hb dX12_fill_34 (lv_at hl 0 rfl) ?_
            refine lv_iconst (v := 1) hx hb dX12_fill_36 (by decide) ?_
            refine lv_iadd hx hb dX12_fill_37 ?_
            obtain ⟨z_35, ez_35, hz_35⟩ := s_add (rfl : f.toInt = _) (show (1 : Int32).toInt = 1 from rfl) (by omega) (by omega)
            refine sj_i ez_35 ?_
            refine lv_iload hx hb dX12_fill_38 (lv_at hl 5 rfl) ?_
            refine x_calli (va_runV (As := [.ref (g 389), .int x, .int y, .int z_35, .int z]) (rest := []) ⟨hx, hb, hml, hown, hts⟩ (m_nameAt_s l D g ka ad j1 r L d x y z_35 z hO_j1 hR H.size (by first | omega | decide) (by first | omega | decide) (by first | omega | decide) (by first | omega | decide) (by first | omega | decide) (by first | omega | decide) (by first | omega | decide) (by first | omega | decide)) (cwV 5 hts gX12_fill_X12_nameAt rfl rfl rfl (by decide +kernel) ⟨(Nat.le_of_ble_eq_true rfl), (Nat.le_of_ble_eq_true rfl)⟩) (x_preV (q := (RX12, TX12, 86)) hH hK (q_obj (by decide) (rfl : kd 36 = 12) (by decide)) rfl gxb (gxw hE hS (x_F hH hS hA))) rfl rfl hl.1 rfl (lv_room (Nat.le_of_ble_eq_true rfl)) dX12_fill_40 ⟨(Nat.le_of_ble_eq_true rfl), (Nat.le_of_ble_eq_true rfl)⟩) hH hS hA rfl rfl (fun r_36 _ H locs hw_37 hH hS => ?_)
            obtain ⟨hr_39, hx2_40⟩ := hw_37
            have hr_39 : (-1 : Int) ≤ r_36.toInt ∧ r_36.toInt ≤ 3 := hr_39
            rw [show j1 389 = i 389 from funext fun b9 => ((hfr_j1 389 b9 (by omega)).trans (up2_o _ _ (by omega))), show j1 394 = i 394 from funext fun b9 => ((hfr_j1 394 b9 (by omega)).trans (up2_o _ _ (by omega))), show j1 395 = i 395 from funext fun b9 => ((hfr_j1 395 b9 (by omega)).trans (up2_o _ _ (by omega))), show j1 396 = i 396 from funext fun b9 => ((hfr_j1 396 b9 (by omega)).trans (up2_o _ _ (by omega)))] at hx2_40
            refine lv_goto (tgt := 47) hx hb dX12_fill_43 (by decide) ?_
            refine lv_istore (lv' := [(7, .int r_36), (6, .int f), (0, .ref (g 36)), (1, .ref (g 389)), (2, .int x), (3, .int y), (4, .int z), (5, .int v4)]) hx hb dX12_fill_47 hl (by decide) rfl (fun ls hl => ?_)
            refine lv_iload hx hb dX12_fill_49 (lv_at hl 0 rfl) ?_
            refine lv_if_ge (tgt := 70) hx hb dX12_fill_51 (by decide) (fun c_41 => ?_) (fun c_41 => ?_)
            · skip
              have h_42 := s_le (show (0 : Int32).toInt = 0 from rfl) (rfl : r_36.toInt = _) c_41
              refine lv_iconst (v := 4) hx hb dX12_fill_70 (by decide) ?_
              refine lv_iload hx hb dX12_fill_71 (lv_at hl 7 rfl) ?_
              refine lv_imul hx hb dX12_fill_73 ?_
              obtain ⟨z_43, ez_43, hz_43⟩ := s_mul (show (4 : Int32).toInt = 4 from rfl) (rfl : v4.toInt = _) (by omega) (by omega)
              refine sj_i ez_43 ?_
              refine lv_iload hx hb dX12_fill_74 (lv_at hl 0 rfl) ?_
              refine lv_iadd hx hb dX12_fill_76 ?_
              obtain ⟨z_44, ez_44, hz_44⟩ := s_add (rfl : z_43.toInt = _) (rfl : r_36.toInt = _) (by omega) (by omega)
              refine sj_i ez_44 ?_
              refine lv_istore (lv' := [(8, .int z_44), (7, .int r_36), (6, .int f), (0, .ref (g 36)), (1, .ref (g 389)), (2, .int x), (3, .int y), (4, .int z), (5, .int v4)]) hx hb dX12_fill_77 hl (by decide) rfl (fun ls hl => ?_)
              refine lv_iconst (v := 0) hx hb dX12_fill_79 (by decide) ?_
              refine lv_istore (lv' := [(9, .int 0), (8, .int z_44), (7, .int r_36), (6, .int f), (0, .ref (g 36)), (1, .ref (g 389)), (2, .int x), (3, .int y), (4, .int z), (5, .int v4)]) hx hb dX12_fill_80 hl (by decide) rfl (fun ls hl => ?_)
              -- loop at 82
              have lp_45 : ∀ (fuel_lp_45 : Nat) (g9 : Int32) (j3 : Nat → Nat → Int32) (H : Heap) (locs : List Loc) (ls : Array Slot), (60 - g9.toInt).toNat < fuel_lp_45 → (0 : Int) ≤ g9.toInt ∧ g9.toInt ≤ 60 → g9.toInt ≤ (i 395 (r_36.toInt + 4 * v4.toInt).toNat).toInt → bfA j1 j3 (tgL (i 396) (60 * z_44.toInt).toNat g9.toInt.toNat) → OkI j3 → (∀ a b, ¬ ((a = 36 ∧ (b = 40)) ∨ a = 402) → j3 a b = j1 a b) → lv_has ls 10 [(9, .int g9), (8, .int z_44), (7, .int r_36), (6, .int f), (0, .ref (g 36)), (1, .ref (g 389)), (2, .int x), (3, .int y), (4, .int z), (5, .int v4)] → sj_H D A (hwc g ka j3 r L d) H → va_S A s.heap H locs → W p l e (headSpec wsX12_fill ({ frames := 1, cells := 0, slots := 0, locals := 30 })).room s m ([.ref (g 36), .ref (g 389), .int x, .int y, .int z, .int v4] : List Value).toArray below meth c H locs 0 0 (MQ below (sj_Qv (S := (Nat → Nat → Int32)) D (fun u => OkI u ∧ (∀ a b, ¬ ((a = 36 ∧ (b = 40)) ∨ a = 402) → u a b = i a b) ∧ (∃ (w : Nat) (m : List Int), flR (i 389) (i 396) (i 395) x.toInt y.toInt z.toInt (i 394 z.toInt.toNat).toInt v4.toInt w 0 m ∧ bfL u = m.take 60)) (fun u => hwc g ka u r L d) (fun _ => []) A) ([.ref (g 36), .ref (g 389), .int x, .int y, .int z, .int v4] : List Value).toArray s 0 0 A) (F0 m 82 ls []) := by
                intro fuel_lp_45
                induction fuel_lp_45 with
                | zero => intros; omega
                | succ fuel_lp_45 ih_lp_45 =>
                  intro g9 j3 H locs ls hm hr_g9 hi_lp_45_0 hi_lp_45_1 hO_j3 hfr_j3 hl hH hS
                  refine lv_iload hx hb dX12_fill_82 (lv_at hl 0 rfl) ?_
                  refine lv_aload_n hx hb dX12_fill_84 rfl (lv_at hl 4 rfl) ?_
                  refine h_getr (ci := 12) (C := RX12) (F := TX12) (N := 86) hx hb hts in12 hown hK hH (by decide) (rfl : kd 36 = 12) (by decide) rfl 31 (by decide) wd1 (fun _ h9 => h9) (by decide) rfl (t := 395) (hR 36 31 rfl) (by decide) dX12_fill_85 ?_
                  refine lv_iload hx hb dX12_fill_88 (lv_at hl 1 rfl) ?_
                  have bx_46 : (0 : Int) ≤ (i 395 (r_36.toInt + 4 * v4.toInt).toNat).toInt ∧ (i 395 (r_36.toInt + 4 * v4.toInt).toNat).toInt ≤ 60 := hO 395 (r_36.toInt + 4 * v4.toInt).toNat
                  refine h_iald hx hb hK hH (by decide) (rfl : kd 395 = 13) (s_vin (N := 160) (rfl : z_44.toInt = _) (rfl : ln 395 = 160) (by omega) (by omega)) dX12_fill_90 ?_
                  have ek_47 : z_44.toNatClampNeg = (r_36.toInt + 4 * v4.toInt).toNat := (s_cl (show z_44.toInt = r_36.toInt + 4 * v4.toInt by omega))
                  refine sj_i (y := (i 395 (r_36.toInt + 4 * v4.toInt).toNat)) (by rw [ek_47]; exact ((hfr_j3 395 (r_36.toInt + 4 * v4.toInt).toNat (by omega)).trans ((hfr_j1 395 (r_36.toInt + 4 * v4.toInt).toNat (by omega)).trans (congrFun (up2_n _ _ (by decide)) _)))) ?_
                  refine lv_icmp_ge (tgt := 117) hx hb dX12_fill_91 (by decide) (fun c_48 => ?_) (fun c_48 => ?_)
                  · skip
                    have h_49 := s_le (rfl : (i 395 (r_36.toInt + 4 * v4.toInt).toNat).toInt = _) (rfl : g9.toInt = _) c_48
                    refine lv_iload hx hb dX12_fill_117 (lv_at hl 3 rfl) ?_
                    refine lv_iconst (v := 2) hx hb dX12_fill_119 (by decide) ?_
                    refine lv_aload_n hx hb dX12_fill_120 rfl (lv_at hl 4 rfl) ?_
                    refine h_getr (ci := 12) (C := RX12) (F := TX12) (N := 86) hx hb hts in12 hown hK hH (by decide) (rfl : kd 36 = 12) (by decide) rfl 31 (by decide) wd1 (fun _ h9 => h9) (by decide) rfl (t := 395) (hR 36 31 rfl) (by decide) dX12_fill_121 ?_
                    refine lv_iconst (v := 4) hx hb dX12_fill_124 (by decide) ?_
                    refine lv_iload hx hb dX12_fill_125 (lv_at hl 8 rfl) ?_
                    refine lv_imul hx hb dX12_fill_127 ?_
                    obtain ⟨z_50, ez_50, hz_50⟩ := s_mul (show (4 : Int32).toInt = 4 from rfl) (rfl : z.toInt = _) (by omega) (by omega)
                    refine sj_i ez_50 ?_
                    refine lv_iload hx hb dX12_fill_128 (lv_at hl 2 rfl) ?_
                    refine lv_iadd hx hb dX12_fill_130 ?_
                    obtain ⟨z_51, ez_51, hz_51⟩ := s_add (rfl : z_50.toInt = _) (rfl : r_36.toInt = _) (by omega) (by omega)
                    refine sj_i ez_51 ?_
                    have bx_52 : (0 : Int) ≤ (i 395 (r_36.toInt + 4 * z.toInt).toNat).toInt ∧ (i 395 (r_36.toInt + 4 * z.toInt).toNat).toInt ≤ 60 := hO 395 (r_36.toInt + 4 * z.toInt).toNat
                    refine h_iald hx hb hK hH (by decide) (rfl : kd 395 = 13) (s_vin (N := 160) (rfl : z_51.toInt = _) (rfl : ln 395 = 160) (by omega) (by omega)) dX12_fill_131 ?_
                    have ek_53 : z_51.toNatClampNeg = (r_36.toInt + 4 * z.toInt).toNat := (s_cl (show z_51.toInt = r_36.toInt + 4 * z.toInt by omega))
                    refine sj_i (y := (i 395 (r_36.toInt + 4 * z.toInt).toNat)) (by rw [ek_53]; exact ((hfr_j3 395 (r_36.toInt + 4 * z.toInt).toNat (by omega)).trans ((hfr_j1 395 (r_36.toInt + 4 * z.toInt).toNat (by omega)).trans (congrFun (up2_n _ _ (by decide)) _)))) ?_
                    refine lv_iadd hx hb dX12_fill_132 ?_
                    obtain ⟨z_54, ez_54, hz_54⟩ := s_add (show (2 : Int32).toInt = 2 from rfl) (rfl : (i 395 (r_36.toInt + 4 * z.toInt).toNat).toInt = _) (by omega) (by omega)
                    refine sj_i ez_54 ?_
                    refine lv_iadd hx hb dX12_fill_133 ?_
                    obtain ⟨z_55, ez_55, hz_55⟩ := s_add (rfl : f.toInt = _) (rfl : z_54.toInt = _) (by omega) (by omega)
                    refine sj_i ez_55 ?_
                    refine lv_istore (lv' := [(6, .int z_55), (9, .int g9), (8, .int z_44), (7, .int r_36), (0, .ref (g 36)), (1, .ref (g 389)), (2, .int x), (3, .int y), (4, .int z), (5, .int v4)]) hx hb dX12_fill_134 hl (by decide) rfl (fun ls hl => ?_)
                    refine lv_goto (tgt := 8) hx hb dX12_fill_136 (by decide) ?_
                    have hnm : nmR (i 389) (i 396) (i 395) x.toInt y.toInt (f.toInt + 1) z.toInt (i 394 z.toInt.toNat).toInt r_36.toInt := by
                        have h9 := hx2_40
                        rw [show z_35.toInt = f.toInt + 1 by omega] at h9
                        exact h9
                    have hba : bfA j1 j3 (tgL (i 396) (60 * (4 * v4.toInt + r_36.toInt)).toNat (i 395 (4 * v4.toInt + r_36.toInt).toNat).toInt.toNat) := by
                        have h9 := hi_lp_45_1
                        rw [show (60 * z_44.toInt).toNat = (60 * (4 * v4.toInt + r_36.toInt)).toNat by omega, show g9.toInt.toNat = (i 395 (4 * v4.toInt + r_36.toInt).toNat).toInt.toNat by have h8 : (i 395 (4 * v4.toInt + r_36.toInt).toNat).toInt = (i 395 (r_36.toInt + 4 * v4.toInt).toNat).toInt := congrArg (fun q => (i 395 q).toInt) (by omega); omega] at h9
                        exact h9
                    have hck2 : (i 395 (4 * z.toInt + r_36.toInt).toNat).toInt = (i 395 (r_36.toInt + 4 * z.toInt).toNat).toInt := congrArg (fun q => (i 395 q).toInt) (by omega)
                    exact ih_lp_2 z_55 _ _ _ ls (by omega) (by omega) (flP_n hi_lp_2_0 (by omega) (by omega) (by omega) (by omega) hnm (by omega) hba) hO_j3 (fun a b ha => ((hfr_j3 a b (by omega)).trans (hfr_j1 a b (by omega)))) (lv_sub hl [0, 4, 5, 6, 7, 8, 9] rfl) hH hS
                  · skip
                    have h_56 := s_nle (rfl : (i 395 (r_36.toInt + 4 * v4.toInt).toNat).toInt = _) (rfl : g9.toInt = _) c_48
                    refine lv_aload_n hx hb dX12_fill_94 rfl (lv_at hl 4 rfl) ?_
                    refine lv_aload_n hx hb dX12_fill_95 rfl (lv_at hl 4 rfl) ?_
                    refine h_getr (ci := 12) (C := RX12) (F := TX12) (N := 86) hx hb hts in12 hown hK hH (by decide) (rfl : kd 36 = 12) (by decide) rfl 32 (by decide) wd2 (fun _ h9 => h9) (by decide) rfl (t := 396) (hR 36 32 rfl) (by decide) dX12_fill_96 ?_
                    refine lv_bipush (v := 60) hx hb dX12_fill_99 (by decide) ?_
                    refine lv_iload hx hb dX12_fill_101 (lv_at hl 1 rfl) ?_
                    refine lv_imul hx hb dX12_fill_103 ?_
                    obtain ⟨z_57, ez_57, hz_57⟩ := s_mul (show (60 : Int32).toInt = 60 from rfl) (rfl : z_44.toInt = _) (by omega) (by omega)
                    refine sj_i ez_57 ?_
                    refine lv_iload hx hb dX12_fill_104 (lv_at hl 0 rfl) ?_
                    refine lv_iadd hx hb dX12_fill_106 ?_
                    obtain ⟨z_58, ez_58, hz_58⟩ := s_add (rfl : z_57.toInt = _) (rfl : g9.toInt = _) (by omega) (by omega)
                    refine sj_i ez_58 ?_
                    have bx_59 : (0 : Int) ≤ (i 396 (g9.toInt + 60 * r_36.toInt + 240 * v4.toInt).toNat).toInt ∧ (i 396 (g9.toInt + 60 * r_36.toInt + 240 * v4.toInt).toNat).toInt ≤ 65535 := hO 396 (g9.toInt + 60 * r_36.toInt + 240 * v4.toInt).toNat
                    refine h_cald hx hb hK hH (by decide) (rfl : kd 396 = 14) (s_vin (N := 9600) (rfl : z_58.toInt = _) (rfl : ln 396 = 9600) (by omega) (by omega)) dX12_fill_107 ?_
                    have ek_60 : z_58.toNatClampNeg = (g9.toInt + 60 * r_36.toInt + 240 * v4.toInt).toNat := (s_cl (show z_58.toInt = g9.toInt + 60 * r_36.toInt + 240 * v4.toInt by omega))
                    refine sj_i (y := (i 396 (g9.toInt + 60 * r_36.toInt + 240 * v4.toInt).toNat)) (by rw [ek_60]; exact ((hfr_j3 396 (g9.toInt + 60 * r_36.toInt + 240 * v4.toInt).toNat (by omega)).trans ((hfr_j1 396 (g9.toInt + 60 * r_36.toInt + 240 * v4.toInt).toNat (by omega)).trans (congrFun (up2_n _ _ (by decide)) _)))) ?_
                    refine x_callv (va_runV (As := [.int (i 396 (g9.toInt + 60 * r_36.toInt + 240 * v4.toInt).toNat)]) (rest := []) ⟨hx, hb, hml, hown, hts⟩ (m_add l D g ka ad j3 r L d (i 396 (g9.toInt + 60 * r_36.toInt + 240 * v4.toInt).toNat) hO_j3 hR H.size (by first | omega | decide) (by first | omega | decide)) (cwV 1 hts gX12_fill_X12_add rfl rfl rfl (by decide +kernel) ⟨(Nat.le_of_ble_eq_true rfl), (Nat.le_of_ble_eq_true rfl)⟩) (x_preV (q := (RX12, TX12, 86)) hH hK (q_obj (by decide) (rfl : kd 36 = 12) (by decide)) rfl gxb (gxw hE hS (x_F hH hS hA))) rfl rfl hl.1 rfl (lv_room (Nat.le_of_ble_eq_true rfl)) dX12_fill_108 ⟨(Nat.le_of_ble_eq_true rfl), (Nat.le_of_ble_eq_true rfl)⟩) hH hS hA rfl rfl (fun im_63 H locs hw_62 hH hS => ?_)
                    have hH : sj_H D A (hwc g ka im_63 r L d) H := hH
                    obtain ⟨hO_65, hfr_64, hx2_66⟩ := hw_62
                    obtain ⟨z_67, ez_67, hz_67⟩ := s_add (rfl : g9.toInt = _) (show (1 : Int32).toInt = 1 from rfl) (by omega) (by omega)
                    refine lv_iinc (v := z_67) (lv' := [(9, .int z_67), (8, .int z_44), (7, .int r_36), (6, .int f), (0, .ref (g 36)), (1, .ref (g 389)), (2, .int x), (3, .int y), (4, .int z), (5, .int v4)]) hx hb dX12_fill_111 hl (k := 0) rfl ez_67 (by decide) rfl (fun ls hl => ?_)
                    refine lv_goto (tgt := 82) hx hb dX12_fill_114 (by decide) ?_
                    exact ih_lp_45 z_67 _ _ _ ls (by omega) (by omega) (by omega) (bfA_s hi_lp_45_1 hx2_66 (hO_j3 36 40).1 (by rw [show (z_67).toInt.toNat = g9.toInt.toNat + 1 by omega, tgL_snoc]; congr 2; exact congrArg (fun q => (i 396 q).toInt) (by omega))) hO_65 (fun a b ha => ((hfr_64 a b (by omega)).trans (hfr_j3 a b (by omega)))) (lv_sub hl [0, 1, 2, 3, 4, 5, 6, 7, 8, 9] rfl) hH hS
              have hl_68 : (0 : Int32).toInt = 0 := rfl
              have hb395 : (0 : Int) ≤ (i 395 (r_36.toInt + 4 * v4.toInt).toNat).toInt ∧ (i 395 (r_36.toInt + 4 * v4.toInt).toNat).toInt ≤ 60 := hO 395 _
              exact lp_45 _ 0 _ _ _ ls (Nat.lt_succ_self _) (by omega) (by omega) (by rw [show (0 : Int32).toInt.toNat = 0 from rfl]; exact bfA_0 _) hO_j1 (fun a b ha => rfl) (lv_sub hl [0, 1, 2, 3, 4, 5, 6, 7, 8, 9] rfl) hH hS
            · skip
              have h_69 := s_nle (show (0 : Int32).toInt = 0 from rfl) (rfl : r_36.toInt = _) c_41
              refine lv_aload_n hx hb dX12_fill_54 rfl (lv_at hl 2 rfl) ?_
              refine lv_aload_n hx hb dX12_fill_55 rfl (lv_at hl 3 rfl) ?_
              refine lv_iload_n hx hb dX12_fill_56 rfl (lv_at hl 4 rfl) ?_
              refine lv_iload hx hb dX12_fill_57 (lv_at hl 1 rfl) ?_
              refine lv_iadd hx hb dX12_fill_59 ?_
              obtain ⟨z_70, ez_70, hz_70⟩ := s_add (rfl : x.toInt = _) (rfl : f.toInt = _) (by omega) (by omega)
              refine sj_i ez_70 ?_
              refine h_cald hx hb hK hH (by decide) (rfl : kd 389 = 14) (s_vin (N := 1800) (rfl : z_70.toInt = _) (rfl : ln 389 = 1800) (by omega) (by omega)) dX12_fill_60 ?_
              have ek_71 : z_70.toNatClampNeg = (f.toInt + x.toInt).toNat := (s_cl (show z_70.toInt = f.toInt + x.toInt by omega))
              refine sj_i (y := (i 389 (f.toInt + x.toInt).toNat)) (by rw [ek_71]; exact ((hfr_j1 389 (f.toInt + x.toInt).toNat (by omega)).trans (congrFun (up2_n _ _ (by decide)) _))) ?_
              refine x_callv (va_runV (As := [.int (i 389 (f.toInt + x.toInt).toNat)]) (rest := []) ⟨hx, hb, hml, hown, hts⟩ (m_add l D g ka ad j1 r L d (i 389 (f.toInt + x.toInt).toNat) hO_j1 hR H.size (by first | omega | decide) (by first | omega | decide)) (cwV 1 hts gX12_fill_X12_add rfl rfl rfl (by decide +kernel) ⟨(Nat.le_of_ble_eq_true rfl), (Nat.le_of_ble_eq_true rfl)⟩) (x_preV (q := (RX12, TX12, 86)) hH hK (q_obj (by decide) (rfl : kd 36 = 12) (by decide)) rfl gxb (gxw hE hS (x_F hH hS hA))) rfl rfl hl.1 rfl (lv_room (Nat.le_of_ble_eq_true rfl)) dX12_fill_61 ⟨(Nat.le_of_ble_eq_true rfl), (Nat.le_of_ble_eq_true rfl)⟩) hH hS hA rfl rfl (fun im_74 H locs hw_73 hH hS => ?_)
              have hH : sj_H D A (hwc g ka im_74 r L d) H := hH
              obtain ⟨hO_76, hfr_75, hx2_77⟩ := hw_73
              obtain ⟨z_78, ez_78, hz_78⟩ := s_add (rfl : f.toInt = _) (show (1 : Int32).toInt = 1 from rfl) (by omega) (by omega)
              refine lv_iinc (v := z_78) (lv' := [(6, .int z_78), (7, .int r_36), (0, .ref (g 36)), (1, .ref (g 389)), (2, .int x), (3, .int y), (4, .int z), (5, .int v4)]) hx hb dX12_fill_64 hl (k := 1) rfl ez_78 (by decide) rfl (fun ls hl => ?_)
              refine lv_goto (tgt := 136) hx hb dX12_fill_67 (by decide) ?_
              refine lv_goto (tgt := 8) hx hb dX12_fill_136 (by decide) ?_
              exact ih_lp_2 z_78 _ _ _ ls (by omega) (by omega) (flP_c hi_lp_2_0 (by omega) (Or.inr (by have h9 := hx2_40; rw [show z_35.toInt = f.toInt + 1 by omega, show r_36.toInt = -1 by omega] at h9; exact h9)) (by omega) (bfA_s (bfA_0 j1) hx2_77 (hO_j1 36 40).1 (by rw [hch]; rfl))) hO_76 (fun a b ha => ((hfr_75 a b (by omega)).trans (hfr_j1 a b (by omega)))) (lv_sub hl [0, 2, 3, 4, 5, 6, 7] rfl) hH hS
  have hl_79 : (0 : Int32).toInt = 0 := rfl
  have hp_80 : ((up2 i 36 40 0) 36 40).toInt = (0 : Int32).toInt := congrArg Int32.toInt ((up2_at _ _ _ _))
  have hl_81 : (0 : Int32).toInt = 0 := rfl
  exact lp_2 _ 0 _ _ _ ls (Nat.lt_succ_self _) (by omega) (by rw [show (0 : Int32).toInt = 0 from rfl]; exact flP_0 (by omega)) hO_1 (fun a b ha => rfl) (lv_sub hl [0, 1, 2, 3, 4, 5, 6] rfl) hH hS
set_option maxHeartbeats 2000000 in
set_option maxRecDepth 100000 in
theorem m_fill_c (l : Launch) (D : va_G) (g : Nat → Nat) (ka : Nat → ClassId) (ad : Nat → Nat) (i : Nat → Nat → Int32) (r : Nat → Nat → Nat) (L : Nat → Nat → Int64) (d : Nat → Nat → UInt64) (x : Int32) (y : Int32) (z : Int32) (v4 : Int32) (hO : OkI i) (hR : RS r) (sz : Nat) (hx0 : 0 ≤ x.toInt) (hxy : x.toInt + y.toInt ≤ 9600) (hy0 : 0 ≤ y.toInt) (hy1 : y.toInt ≤ 60) (hz0 : -1 ≤ z.toInt) (hz1 : z.toInt ≤ 39) (hv0 : -1 ≤ v4.toInt) (hv1 : v4.toInt ≤ 39) (hzv : z.toInt < 0 ∨ 0 ≤ v4.toInt) : Met l yX12_fill wsX12_fill ({ frames := 1, cells := 0, slots := 0, locals := 30 }) (va_Pc [.ref (g 36), .ref (g 396), .int x, .int y, .int z, .int v4] (sj_B D (hwc g ka i r L d) (hT ka) sz (gx ad (va_A (hwc g ka i r L d) sz)))) (sj_Qv (S := (Nat → Nat → Int32)) D (fun u => OkI u ∧ (∀ a b, ¬ ((a = 36 ∧ (b = 40)) ∨ a = 402) → u a b = i a b) ∧ (∃ (w : Nat) (m : List Int), flR (i 396) (i 396) (i 395) x.toInt y.toInt z.toInt (i 394 z.toInt.toNat).toInt v4.toInt w 0 m ∧ bfL u = m.take 60)) (fun u => hwc g ka u r L d) (fun _ => []) (va_A (hwc g ka i r L d) sz)) 0 0 (va_A (hwc g ka i r L d) sz) := by
  refine x_met (Ex := gx ad) (cc := cX12_fill) (maxL := 10) (ret := none) (by decide) rfl (Nat.le_of_ble_eq_true rfl) ?_
  intro p e s m below meth c A ls hx hb hr hml hts hown hlocks hA hS hH hK hE hl
  have hown : s.vm.findClass RX12 = some m.cls := hown
  have in12 : ∀ w ∈ wsX120, w ∈ wsX12_fill := (fun _ h => (List.mem_cons_of_mem _ (List.mem_append_right _ h)))
  have wd0 := hts (.fieldLink RX12 224 "StoryDeskModel" "filled" "I") (List.mem_cons_of_mem _ (List.mem_append_left _ lm0))
  have wd1 := hts (.fieldLink RX12 93 "StoryDeskModel" "cellSize" "[I") (List.mem_cons_of_mem _ (List.mem_append_left _ lm1))
  have wd2 := hts (.fieldLink RX12 96 "StoryDeskModel" "cellText" "[C") (List.mem_cons_of_mem _ (List.mem_append_left _ lm2))
  have hl : lv_has ls 10 [(0, .ref (g 36)), (1, .ref (g 396)), (2, .int x), (3, .int y), (4, .int z), (5, .int v4)] := hl
  have hK : va_K D vwCl (hT ka) s := hK
  refine lv_aload_n hx hb dX12_fill_0 rfl (lv_at hl 0 rfl) ?_
  refine lv_iconst (v := 0) hx hb dX12_fill_1 (by decide) ?_
  have hO_1 := okp hO (n := 36) (k := 40) (v := 0) (show (0 : Int) ≤ (0 : Int32).toInt ∧ (0 : Int32).toInt ≤ 60 from ⟨by decide, by decide⟩)
  refine h_puti (ty := .int) (ci := 12) (C := RX12) (F := TX12) (N := 86) hx hb hts in12 tyX12 tyX12_ok nmX12 hown hK hH hS (by decide) (rfl : kd 36 = 12) (by decide) rfl 40 (by decide) wd0 (fun _ h9 => h9) rfl (by decide +kernel) rfl rfl (by decide) rfl dX12_fill_2 (fun H locs hH hS => ?_)
  refine lv_iconst (v := 0) hx hb dX12_fill_5 (by decide) ?_
  refine lv_istore (lv' := [(6, .int 0), (0, .ref (g 36)), (1, .ref (g 396)), (2, .int x), (3, .int y), (4, .int z), (5, .int v4)]) hx hb dX12_fill_6 hl (by decide) rfl (fun ls hl => ?_)
  -- loop at 8
  have lp_2 : ∀ (fuel_lp_2 : Nat) (f : Int32) (j1 : Nat → Nat → Int32) (H : Heap) (locs : List Loc) (ls : Array Slot), (130 - f.toInt).toNat < fuel_lp_2 → (0 : Int) ≤ f.toInt ∧ f.toInt ≤ 130 → flP (i 396) (i 396) (i 395) x.toInt y.toInt z.toInt (i 394 z.toInt.toNat).toInt v4.toInt j1 f.toInt → OkI j1 → (∀ a b, ¬ ((a = 36 ∧ (b = 40)) ∨ a = 402) → j1 a b = (up2 i 36 40 0) a b) → lv_has ls 10 [(6, .int f), (0, .ref (g 36)), (1, .ref (g 396)), (2, .int x), (3, .int y), (4, .int z), (5, .int v4)] → sj_H D A (hwc g ka j1 r L d) H → va_S A s.heap H locs → W p l e (headSpec wsX12_fill ({ frames := 1, cells := 0, slots := 0, locals := 30 })).room s m ([.ref (g 36), .ref (g 396), .int x, .int y, .int z, .int v4] : List Value).toArray below meth c H locs 0 0 (MQ below (sj_Qv (S := (Nat → Nat → Int32)) D (fun u => OkI u ∧ (∀ a b, ¬ ((a = 36 ∧ (b = 40)) ∨ a = 402) → u a b = i a b) ∧ (∃ (w : Nat) (m : List Int), flR (i 396) (i 396) (i 395) x.toInt y.toInt z.toInt (i 394 z.toInt.toNat).toInt v4.toInt w 0 m ∧ bfL u = m.take 60)) (fun u => hwc g ka u r L d) (fun _ => []) A) ([.ref (g 36), .ref (g 396), .int x, .int y, .int z, .int v4] : List Value).toArray s 0 0 A) (F0 m 8 ls []) := by
    intro fuel_lp_2
    induction fuel_lp_2 with
    | zero => intros; omega
    | succ fuel_lp_2 ih_lp_2 =>
      intro f j1 H locs ls hm hr_f hi_lp_2_0 hO_j1 hfr_j1 hl hH hS
      have hch : (i 396 (x.toInt + f.toInt).toNat).toInt = (i 396 (f.toInt + x.toInt).toNat).toInt := congrArg (fun q => (i 396 q).toInt) (by omega)
      refine lv_iload hx hb dX12_fill_8 (lv_at hl 0 rfl) ?_
      refine lv_iload_n hx hb dX12_fill_10 rfl (lv_at hl 4 rfl) ?_
      refine lv_icmp_ge (tgt := 139) hx hb dX12_fill_11 (by decide) (fun c_3 => ?_) (fun c_3 => ?_)
      · skip
        have h_4 := s_le (rfl : y.toInt = _) (rfl : f.toInt = _) c_3
        have hV_5 : ∃ (w : Nat) (m : List Int), flR (i 396) (i 396) (i 395) x.toInt y.toInt z.toInt (i 394 z.toInt.toNat).toInt v4.toInt w 0 m ∧ bfL j1 = m.take 60 := (flP_e hi_lp_2_0 (by omega) (bfL_len hO_j1))
        exact sj_vret hx hb hr hlocks hS j1 ⟨hO_j1, (fun a b ha => ((hfr_j1 a b (by omega)).trans (up2_o _ _ (by omega)))), hV_5⟩ hH (sj_Knil hK) (Nat.le_of_ble_eq_true rfl) (Nat.le_of_ble_eq_true rfl) dX12_fill_139
      · skip
        have h_6 := s_nle (rfl : y.toInt = _) (rfl : f.toInt = _) c_3
        refine lv_iload hx hb dX12_fill_14 (lv_at hl 5 rfl) ?_
        refine lv_if_lt (tgt := 46) hx hb dX12_fill_16 (by decide) (fun c_7 => ?_) (fun c_7 => ?_)
        · skip
          have h_8 := s_lt (rfl : z.toInt = _) (show (0 : Int32).toInt = 0 from rfl) c_7
          refine lv_iconst (v := (-1)) hx hb dX12_fill_46 (by decide) ?_
          refine lv_istore (lv' := [(7, .int (-1)), (6, .int f), (0, .ref (g 36)), (1, .ref (g 396)), (2, .int x), (3, .int y), (4, .int z), (5, .int v4)]) hx hb dX12_fill_47 hl (by decide) rfl (fun ls hl => ?_)
          refine lv_iload hx hb dX12_fill_49 (lv_at hl 0 rfl) ?_
          refine lv_if_ge (tgt := 70) hx hb dX12_fill_51 (by decide) (fun h => absurd h (by decide)) (fun _ => ?_)
          refine lv_aload_n hx hb dX12_fill_54 rfl (lv_at hl 2 rfl) ?_
          refine lv_aload_n hx hb dX12_fill_55 rfl (lv_at hl 3 rfl) ?_
          refine lv_iload_n hx hb dX12_fill_56 rfl (lv_at hl 4 rfl) ?_
          refine lv_iload hx hb dX12_fill_57 (lv_at hl 1 rfl) ?_
          refine lv_iadd hx hb dX12_fill_59 ?_
          obtain ⟨z_9, ez_9, hz_9⟩ := s_add (rfl : x.toInt = _) (rfl : f.toInt = _) (by omega) (by omega)
          refine sj_i ez_9 ?_
          have bx_10 : (0 : Int) ≤ (i 396 (f.toInt + x.toInt).toNat).toInt ∧ (i 396 (f.toInt + x.toInt).toNat).toInt ≤ 65535 := hO 396 (f.toInt + x.toInt).toNat
          refine h_cald hx hb hK hH (by decide) (rfl : kd 396 = 14) (s_vin (N := 9600) (rfl : z_9.toInt = _) (rfl : ln 396 = 9600) (by omega) (by omega)) dX12_fill_60 ?_
          have ek_11 : z_9.toNatClampNeg = (f.toInt + x.toInt).toNat := (s_cl (show z_9.toInt = f.toInt + x.toInt by omega))
          refine sj_i (y := (i 396 (f.toInt + x.toInt).toNat)) (by rw [ek_11]; exact ((hfr_j1 396 (f.toInt + x.toInt).toNat (by omega)).trans (congrFun (up2_n _ _ (by decide)) _))) ?_
          refine x_callv (va_runV (As := [.int (i 396 (f.toInt + x.toInt).toNat)]) (rest := []) ⟨hx, hb, hml, hown, hts⟩ (m_add l D g ka ad j1 r L d (i 396 (f.toInt + x.toInt).toNat) hO_j1 hR H.size (by first | omega | decide) (by first | omega | decide)) (cwV 1 hts gX12_fill_X12_add rfl rfl rfl (by decide +kernel) ⟨(Nat.le_of_ble_eq_true rfl), (Nat.le_of_ble_eq_true rfl)⟩) (x_preV (q := (RX12, TX12, 86)) hH hK (q_obj (by decide) (rfl : kd 36 = 12) (by decide)) rfl gxb (gxw hE hS (x_F hH hS hA))) rfl rfl hl.1 rfl (lv_room (Nat.le_of_ble_eq_true rfl)) dX12_fill_61 ⟨(Nat.le_of_ble_eq_true rfl), (Nat.le_of_ble_eq_true rfl)⟩) hH hS hA rfl rfl (fun im_14 H locs hw_13 hH hS => ?_)
          have hH : sj_H D A (hwc g ka im_14 r L d) H := hH
          obtain ⟨hO_16, hfr_15, hx2_17⟩ := hw_13
          obtain ⟨z_18, ez_18, hz_18⟩ := s_add (rfl : f.toInt = _) (show (1 : Int32).toInt = 1 from rfl) (by omega) (by omega)
          refine lv_iinc (v := z_18) (lv' := [(6, .int z_18), (7, .int (-1)), (0, .ref (g 36)), (1, .ref (g 396)), (2, .int x), (3, .int y), (4, .int z), (5, .int v4)]) hx hb dX12_fill_64 hl (k := 1) rfl ez_18 (by decide) rfl (fun ls hl => ?_)
          refine lv_goto (tgt := 136) hx hb dX12_fill_67 (by decide) ?_
          refine lv_goto (tgt := 8) hx hb dX12_fill_136 (by decide) ?_
          exact ih_lp_2 z_18 _ _ _ ls (by omega) (by omega) (flP_c hi_lp_2_0 (by omega) (Or.inl (by omega)) (by omega) (bfA_s (bfA_0 j1) hx2_17 (hO_j1 36 40).1 (by rw [hch]; rfl))) hO_16 (fun a b ha => ((hfr_15 a b (by omega)).trans (hfr_j1 a b (by omega)))) (lv_sub hl [0, 2, 3, 4, 5, 6, 7] rfl) hH hS
        · skip
          have h_19 := s_nlt (rfl : z.toInt = _) (show (0 : Int32).toInt = 0 from rfl) c_7
          refine lv_aload_n hx hb dX12_fill_19 rfl (lv_at hl 2 rfl) ?_
          refine lv_iload_n hx hb dX12_fill_20 rfl (lv_at hl 3 rfl) ?_
          refine lv_iload hx hb dX12_fill_21 (lv_at hl 0 rfl) ?_
          refine lv_iadd hx hb dX12_fill_23 ?_
          obtain ⟨z_20, ez_20, hz_20⟩ := s_add (rfl : x.toInt = _) (rfl : f.toInt = _) (by omega) (by omega)
          refine sj_i ez_20 ?_
          have bx_21 : (0 : Int) ≤ (i 396 (f.toInt + x.toInt).toNat).toInt ∧ (i 396 (f.toInt + x.toInt).toNat).toInt ≤ 65535 := hO 396 (f.toInt + x.toInt).toNat
          refine h_cald hx hb hK hH (by decide) (rfl : kd 396 = 14) (s_vin (N := 9600) (rfl : z_20.toInt = _) (rfl : ln 396 = 9600) (by omega) (by omega)) dX12_fill_24 ?_
          have ek_22 : z_20.toNatClampNeg = (f.toInt + x.toInt).toNat := (s_cl (show z_20.toInt = f.toInt + x.toInt by omega))
          refine sj_i (y := (i 396 (f.toInt + x.toInt).toNat)) (by rw [ek_22]; exact ((hfr_j1 396 (f.toInt + x.toInt).toNat (by omega)).trans (congrFun (up2_n _ _ (by decide)) _))) ?_
          refine lv_bipush (v := 60) hx hb dX12_fill_25 (by decide) ?_
          refine lv_icmp_ne (tgt := 46) hx hb dX12_fill_27 (by decide) (fun c_23 => ?_) (fun c_23 => ?_)
          · skip
            have h_24 := s_ne (rfl : (i 396 (f.toInt + x.toInt).toNat).toInt = _) (show (60 : Int32).toInt = 60 from rfl) c_23
            refine lv_iconst (v := (-1)) hx hb dX12_fill_46 (by decide) ?_
            refine lv_istore (lv' := [(7, .int (-1)), (6, .int f), (0, .ref (g 36)), (1, .ref (g 396)), (2, .int x), (3, .int y), (4, .int z), (5, .int v4)]) hx hb dX12_fill_47 hl (by decide) rfl (fun ls hl => ?_)
            refine lv_iload hx hb dX12_fill_49 (lv_at hl 0 rfl) ?_
            refine lv_if_ge (tgt := 70) hx hb dX12_fill_51 (by decide) (fun h => absurd h (by decide)) (fun _ => ?_)
            refine lv_aload_n hx hb dX12_fill_54 rfl (lv_at hl 2 rfl) ?_
            refine lv_aload_n hx hb dX12_fill_55 rfl (lv_at hl 3 rfl) ?_
            refine lv_iload_n hx hb dX12_fill_56 rfl (lv_at hl 4 rfl) ?_
            refine lv_iload hx hb dX12_fill_57 (lv_at hl 1 rfl) ?_
            refine lv_iadd hx hb dX12_fill_59 ?_
            obtain ⟨z_25, ez_25, hz_25⟩ := s_add (rfl : x.toInt = _) (rfl : f.toInt = _) (by omega) (by omega)
            refine sj_i ez_25 ?_
            refine h_cald hx hb hK hH (by decide) (rfl : kd 396 = 14) (s_vin (N := 9600) (rfl : z_25.toInt = _) (rfl : ln 396 = 9600) (by omega) (by omega)) dX12_fill_60 ?_
            have ek_26 : z_25.toNatClampNeg = (f.toInt + x.toInt).toNat := (s_cl (show z_25.toInt = f.toInt + x.toInt by omega))
            refine sj_i (y := (i 396 (f.toInt + x.toInt).toNat)) (by rw [ek_26]; exact ((hfr_j1 396 (f.toInt + x.toInt).toNat (by omega)).trans (congrFun (up2_n _ _ (by decide)) _))) ?_
            refine x_callv (va_runV (As := [.int (i 396 (f.toInt + x.toInt).toNat)]) (rest := []) ⟨hx, hb, hml, hown, hts⟩ (m_add l D g ka ad j1 r L d (i 396 (f.toInt + x.toInt).toNat) hO_j1 hR H.size (by first | omega | decide) (by first | omega | decide)) (cwV 1 hts gX12_fill_X12_add rfl rfl rfl (by decide +kernel) ⟨(Nat.le_of_ble_eq_true rfl), (Nat.le_of_ble_eq_true rfl)⟩) (x_preV (q := (RX12, TX12, 86)) hH hK (q_obj (by decide) (rfl : kd 36 = 12) (by decide)) rfl gxb (gxw hE hS (x_F hH hS hA))) rfl rfl hl.1 rfl (lv_room (Nat.le_of_ble_eq_true rfl)) dX12_fill_61 ⟨(Nat.le_of_ble_eq_true rfl), (Nat.le_of_ble_eq_true rfl)⟩) hH hS hA rfl rfl (fun im_29 H locs hw_28 hH hS => ?_)
            have hH : sj_H D A (hwc g ka im_29 r L d) H := hH
            obtain ⟨hO_31, hfr_30, hx2_32⟩ := hw_28
            obtain ⟨z_33, ez_33, hz_33⟩ := s_add (rfl : f.toInt = _) (show (1 : Int32).toInt = 1 from rfl) (by omega) (by omega)
            refine lv_iinc (v := z_33) (lv' := [(6, .int z_33), (7, .int (-1)), (0, .ref (g 36)), (1, .ref (g 396)), (2, .int x), (3, .int y), (4, .int z), (5, .int v4)]) hx hb dX12_fill_64 hl (k := 1) rfl ez_33 (by decide) rfl (fun ls hl => ?_)
            refine lv_goto (tgt := 136) hx hb dX12_fill_67 (by decide) ?_
            refine lv_goto (tgt := 8) hx hb dX12_fill_136 (by decide) ?_
            exact ih_lp_2 z_33 _ _ _ ls (by omega) (by omega) (flP_c hi_lp_2_0 (by omega) (Or.inl (by omega)) (by omega) (bfA_s (bfA_0 j1) hx2_32 (hO_j1 36 40).1 (by rw [hch]; rfl))) hO_31 (fun a b ha => ((hfr_30 a b (by omega)).trans (hfr_j1 a b (by omega)))) (lv_sub hl [0, 2, 3, 4, 5, 6, 7] rfl) hH hS
          · skip
            have h_34 := s_eq (rfl : (i 396 (f.toInt + x.toInt).toNat).toInt = _) (show (60 : Int32).toInt = 60 from rfl) c_23
            refine lv_aload_n hx hb dX12_fill_30 rfl (lv_at hl 1 rfl) ?_
            refine lv_aload_n hx hb dX12_fill_31 rfl (lv_at hl 2 rfl) ?_
            refine lv_iload_n hx hb dX12_fill_32 rfl (lv_at hl 3 rfl) ?_
            refine lv_iload_n hx hb dX12_fill_33 rfl (lv_at hl 4 rfl) ?_
            refine lv_iload hx hb dX12_fill_34 (lv_at hl 0 rfl) ?_
            refine lv_iconst (v := 1) hx hb dX12_fill_36 (by decide) ?_
            refine lv_iadd hx hb dX12_fill_37 ?_
            obtain ⟨z_35, ez_35, hz_35⟩ := s_add (rfl : f.toInt = _) (show (1 : Int32).toInt = 1 from rfl) (by omega) (by omega)
            refine sj_i ez_35 ?_
            refine lv_iload hx hb dX12_fill_38 (lv_at hl 5 rfl) ?_
            refine x_calli (va_runV (As := [.ref (g 396), .int x, .int y, .int z_35, .int z]) (rest := []) ⟨hx, hb, hml, hown, hts⟩ (m_nameAt_c l D g ka ad j1 r L d x y z_35 z hO_j1 hR H.size (by first | omega | decide) (by first | omega | decide) (by first | omega | decide) (by first | omega | decide) (by first | omega | decide) (by first | omega | decide) (by first | omega | decide) (by first | omega | decide)) (cwV 5 hts gX12_fill_X12_nameAt rfl rfl rfl (by decide +kernel) ⟨(Nat.le_of_ble_eq_true rfl), (Nat.le_of_ble_eq_true rfl)⟩) (x_preV (q := (RX12, TX12, 86)) hH hK (q_obj (by decide) (rfl : kd 36 = 12) (by decide)) rfl gxb (gxw hE hS (x_F hH hS hA))) rfl rfl hl.1 rfl (lv_room (Nat.le_of_ble_eq_true rfl)) dX12_fill_40 ⟨(Nat.le_of_ble_eq_true rfl), (Nat.le_of_ble_eq_true rfl)⟩) hH hS hA rfl rfl (fun r_36 _ H locs hw_37 hH hS => ?_)
            obtain ⟨hr_39, hx2_40⟩ := hw_37
            have hr_39 : (-1 : Int) ≤ r_36.toInt ∧ r_36.toInt ≤ 3 := hr_39
            rw [show j1 394 = i 394 from funext fun b9 => ((hfr_j1 394 b9 (by omega)).trans (up2_o _ _ (by omega))), show j1 395 = i 395 from funext fun b9 => ((hfr_j1 395 b9 (by omega)).trans (up2_o _ _ (by omega))), show j1 396 = i 396 from funext fun b9 => ((hfr_j1 396 b9 (by omega)).trans (up2_o _ _ (by omega)))] at hx2_40
            refine lv_goto (tgt := 47) hx hb dX12_fill_43 (by decide) ?_
            refine lv_istore (lv' := [(7, .int r_36), (6, .int f), (0, .ref (g 36)), (1, .ref (g 396)), (2, .int x), (3, .int y), (4, .int z), (5, .int v4)]) hx hb dX12_fill_47 hl (by decide) rfl (fun ls hl => ?_)
            refine lv_iload hx hb dX12_fill_49 (lv_at hl 0 rfl) ?_
            refine lv_if_ge (tgt := 70) hx hb dX12_fill_51 (by decide) (fun c_41 => ?_) (fun c_41 => ?_)
            · skip
              have h_42 := s_le (show (0 : Int32).toInt = 0 from rfl) (rfl : r_36.toInt = _) c_41
              refine lv_iconst (v := 4) hx hb dX12_fill_70 (by decide) ?_
              refine lv_iload hx hb dX12_fill_71 (lv_at hl 7 rfl) ?_
              refine lv_imul hx hb dX12_fill_73 ?_
              obtain ⟨z_43, ez_43, hz_43⟩ := s_mul (show (4 : Int32).toInt = 4 from rfl) (rfl : v4.toInt = _) (by omega) (by omega)
              refine sj_i ez_43 ?_
              refine lv_iload hx hb dX12_fill_74 (lv_at hl 0 rfl) ?_
              refine lv_iadd hx hb dX12_fill_76 ?_
              obtain ⟨z_44, ez_44, hz_44⟩ := s_add (rfl : z_43.toInt = _) (rfl : r_36.toInt = _) (by omega) (by omega)
              refine sj_i ez_44 ?_
              refine lv_istore (lv' := [(8, .int z_44), (7, .int r_36), (6, .int f), (0, .ref (g 36)), (1, .ref (g 396)), (2, .int x), (3, .int y), (4, .int z), (5, .int v4)]) hx hb dX12_fill_77 hl (by decide) rfl (fun ls hl => ?_)
              refine lv_iconst (v := 0) hx hb dX12_fill_79 (by decide) ?_
              refine lv_istore (lv' := [(9, .int 0), (8, .int z_44), (7, .int r_36), (6, .int f), (0, .ref (g 36)), (1, .ref (g 396)), (2, .int x), (3, .int y), (4, .int z), (5, .int v4)]) hx hb dX12_fill_80 hl (by decide) rfl (fun ls hl => ?_)
              -- loop at 82
              have lp_45 : ∀ (fuel_lp_45 : Nat) (g9 : Int32) (j3 : Nat → Nat → Int32) (H : Heap) (locs : List Loc) (ls : Array Slot), (60 - g9.toInt).toNat < fuel_lp_45 → (0 : Int) ≤ g9.toInt ∧ g9.toInt ≤ 60 → g9.toInt ≤ (i 395 (r_36.toInt + 4 * v4.toInt).toNat).toInt → bfA j1 j3 (tgL (i 396) (60 * z_44.toInt).toNat g9.toInt.toNat) → OkI j3 → (∀ a b, ¬ ((a = 36 ∧ (b = 40)) ∨ a = 402) → j3 a b = j1 a b) → lv_has ls 10 [(9, .int g9), (8, .int z_44), (7, .int r_36), (6, .int f), (0, .ref (g 36)), (1, .ref (g 396)), (2, .int x), (3, .int y), (4, .int z), (5, .int v4)] → sj_H D A (hwc g ka j3 r L d) H → va_S A s.heap H locs → W p l e (headSpec wsX12_fill ({ frames := 1, cells := 0, slots := 0, locals := 30 })).room s m ([.ref (g 36), .ref (g 396), .int x, .int y, .int z, .int v4] : List Value).toArray below meth c H locs 0 0 (MQ below (sj_Qv (S := (Nat → Nat → Int32)) D (fun u => OkI u ∧ (∀ a b, ¬ ((a = 36 ∧ (b = 40)) ∨ a = 402) → u a b = i a b) ∧ (∃ (w : Nat) (m : List Int), flR (i 396) (i 396) (i 395) x.toInt y.toInt z.toInt (i 394 z.toInt.toNat).toInt v4.toInt w 0 m ∧ bfL u = m.take 60)) (fun u => hwc g ka u r L d) (fun _ => []) A) ([.ref (g 36), .ref (g 396), .int x, .int y, .int z, .int v4] : List Value).toArray s 0 0 A) (F0 m 82 ls []) := by
                intro fuel_lp_45
                induction fuel_lp_45 with
                | zero => intros; omega
                | succ fuel_lp_45 ih_lp_45 =>
                  intro g9 j3 H locs ls hm hr_g9 hi_lp_45_0 hi_lp_45_1 hO_j3 hfr_j3 hl hH hS
                  refine lv_iload hx hb dX12_fill_82 (lv_at hl 0 rfl) ?_
                  refine lv_aload_n hx hb dX12_fill_84 rfl (lv_at hl 4 rfl) ?_
                  refine h_getr (ci := 12) (C := RX12) (F := TX12) (N := 86) hx hb hts in12 hown hK hH (by decide) (rfl : kd 36 = 12) (by decide) rfl 31 (by decide) wd1 (fun _ h9 => h9) (by decide) rfl (t := 395) (hR 36 31 rfl) (by decide) dX12_fill_85 ?_
                  refine lv_iload hx hb dX12_fill_88 (lv_at hl 1 rfl) ?_
                  have bx_46 : (0 : Int) ≤ (i 395 (r_36.toInt + 4 * v4.toInt).toNat).toInt ∧ (i 395 (r_36.toInt + 4 * v4.toInt).toNat).toInt ≤ 60 := hO 395 (r_36.toInt + 4 * v4.toInt).toNat
                  refine h_iald hx hb hK hH (by decide) (rfl : kd 395 = 13) (s_vin (N := 160) (rfl : z_44.toInt = _) (rfl : ln 395 = 160) (by omega) (by omega)) dX12_fill_90 ?_
                  have ek_47 : z_44.toNatClampNeg = (r_36.toInt + 4 * v4.toInt).toNat := (s_cl (show z_44.toInt = r_36.toInt + 4 * v4.toInt by omega))
                  refine sj_i (y := (i 395 (r_36.toInt + 4 * v4.toInt).toNat)) (by rw [ek_47]; exact ((hfr_j3 395 (r_36.toInt + 4 * v4.toInt).toNat (by omega)).trans ((hfr_j1 395 (r_36.toInt + 4 * v4.toInt).toNat (by omega)).trans (congrFun (up2_n _ _ (by decide)) _)))) ?_
                  refine lv_icmp_ge (tgt := 117) hx hb dX12_fill_91 (by decide) (fun c_48 => ?_) (fun c_48 => ?_)
                  · skip
                    have h_49 := s_le (rfl : (i 395 (r_36.toInt + 4 * v4.toInt).toNat).toInt = _) (rfl : g9.toInt = _) c_48
                    refine lv_iload hx hb dX12_fill_117 (lv_at hl 3 rfl) ?_
                    refine lv_iconst (v := 2) hx hb dX12_fill_119 (by decide) ?_
                    refine lv_aload_n hx hb dX12_fill_120 rfl (lv_at hl 4 rfl) ?_
                    refine h_getr (ci := 12) (C := RX12) (F := TX12) (N := 86) hx hb hts in12 hown hK hH (by decide) (rfl : kd 36 = 12) (by decide) rfl 31 (by decide) wd1 (fun _ h9 => h9) (by decide) rfl (t := 395) (hR 36 31 rfl) (by decide) dX12_fill_121 ?_
                    refine lv_iconst (v := 4) hx hb dX12_fill_124 (by decide) ?_
                    refine lv_iload hx hb dX12_fill_125 (lv_at hl 8 rfl) ?_
                    refine lv_imul hx hb dX12_fill_127 ?_
                    obtain ⟨z_50, ez_50, hz_50⟩ := s_mul (show (4 : Int32).toInt = 4 from rfl) (rfl : z.toInt = _) (by omega) (by omega)
                    refine sj_i ez_50 ?_
                    refine lv_iload hx hb dX12_fill_128 (lv_at hl 2 rfl) ?_
                    refine lv_iadd hx hb dX12_fill_130 ?_
                    obtain ⟨z_51, ez_51, hz_51⟩ := s_add (rfl : z_50.toInt = _) (rfl : r_36.toInt = _) (by omega) (by omega)
                    refine sj_i ez_51 ?_
                    have bx_52 : (0 : Int) ≤ (i 395 (r_36.toInt + 4 * z.toInt).toNat).toInt ∧ (i 395 (r_36.toInt + 4 * z.toInt).toNat).toInt ≤ 60 := hO 395 (r_36.toInt + 4 * z.toInt).toNat
                    refine h_iald hx hb hK hH (by decide) (rfl : kd 395 = 13) (s_vin (N := 160) (rfl : z_51.toInt = _) (rfl : ln 395 = 160) (by omega) (by omega)) dX12_fill_131 ?_
                    have ek_53 : z_51.toNatClampNeg = (r_36.toInt + 4 * z.toInt).toNat := (s_cl (show z_51.toInt = r_36.toInt + 4 * z.toInt by omega))
                    refine sj_i (y := (i 395 (r_36.toInt + 4 * z.toInt).toNat)) (by rw [ek_53]; exact ((hfr_j3 395 (r_36.toInt + 4 * z.toInt).toNat (by omega)).trans ((hfr_j1 395 (r_36.toInt + 4 * z.toInt).toNat (by omega)).trans (congrFun (up2_n _ _ (by decide)) _)))) ?_
                    refine lv_iadd hx hb dX12_fill_132 ?_
                    obtain ⟨z_54, ez_54, hz_54⟩ := s_add (show (2 : Int32).toInt = 2 from rfl) (rfl : (i 395 (r_36.toInt + 4 * z.toInt).toNat).toInt = _) (by omega) (by omega)
                    refine sj_i ez_54 ?_
                    refine lv_iadd hx hb dX12_fill_133 ?_
                    obtain ⟨z_55, ez_55, hz_55⟩ := s_add (rfl : f.toInt = _) (rfl : z_54.toInt = _) (by omega) (by omega)
                    refine sj_i ez_55 ?_
                    refine lv_istore (lv' := [(6, .int z_55), (9, .int g9), (8, .int z_44), (7, .int r_36), (0, .ref (g 36)), (1, .ref (g 396)), (2, .int x), (3, .int y), (4, .int z), (5, .int v4)]) hx hb dX12_fill_134 hl (by decide) rfl (fun ls hl => ?_)
                    refine lv_goto (tgt := 8) hx hb dX12_fill_136 (by decide) ?_
                    have hnm : nmR (i 396) (i 396) (i 395) x.toInt y.toInt (f.toInt + 1) z.toInt (i 394 z.toInt.toNat).toInt r_36.toInt := by
                        have h9 := hx2_40
                        rw [show z_35.toInt = f.toInt + 1 by omega] at h9
                        exact h9
                    have hba : bfA j1 j3 (tgL (i 396) (60 * (4 * v4.toInt + r_36.toInt)).toNat (i 395 (4 * v4.toInt + r_36.toInt).toNat).toInt.toNat) := by
                        have h9 := hi_lp_45_1
                        rw [show (60 * z_44.toInt).toNat = (60 * (4 * v4.toInt + r_36.toInt)).toNat by omega, show g9.toInt.toNat = (i 395 (4 * v4.toInt + r_36.toInt).toNat).toInt.toNat by have h8 : (i 395 (4 * v4.toInt + r_36.toInt).toNat).toInt = (i 395 (r_36.toInt + 4 * v4.toInt).toNat).toInt := congrArg (fun q => (i 395 q).toInt) (by omega); omega] at h9
                        exact h9
                    have hck2 : (i 395 (4 * z.toInt + r_36.toInt).toNat).toInt = (i 395 (r_36.toInt + 4 * z.toInt).toNat).toInt := congrArg (fun q => (i 395 q).toInt) (by omega)
                    exact ih_lp_2 z_55 _ _ _ ls (by omega) (by omega) (flP_n hi_lp_2_0 (by omega) (by omega) (by omega) (by omega) hnm (by omega) hba) hO_j3 (fun a b ha => ((hfr_j3 a b (by omega)).trans (hfr_j1 a b (by omega)))) (lv_sub hl [0, 4, 5, 6, 7, 8, 9] rfl) hH hS
                  · skip
                    have h_56 := s_nle (rfl : (i 395 (r_36.toInt + 4 * v4.toInt).toNat).toInt = _) (rfl : g9.toInt = _) c_48
                    refine lv_aload_n hx hb dX12_fill_94 rfl (lv_at hl 4 rfl) ?_
                    refine lv_aload_n hx hb dX12_fill_95 rfl (lv_at hl 4 rfl) ?_
                    refine h_getr (ci := 12) (C := RX12) (F := TX12) (N := 86) hx hb hts in12 hown hK hH (by decide) (rfl : kd 36 = 12) (by decide) rfl 32 (by decide) wd2 (fun _ h9 => h9) (by decide) rfl (t := 396) (hR 36 32 rfl) (by decide) dX12_fill_96 ?_
                    refine lv_bipush (v := 60) hx hb dX12_fill_99 (by decide) ?_
                    refine lv_iload hx hb dX12_fill_101 (lv_at hl 1 rfl) ?_
                    refine lv_imul hx hb dX12_fill_103 ?_
                    obtain ⟨z_57, ez_57, hz_57⟩ := s_mul (show (60 : Int32).toInt = 60 from rfl) (rfl : z_44.toInt = _) (by omega) (by omega)
                    refine sj_i ez_57 ?_
                    refine lv_iload hx hb dX12_fill_104 (lv_at hl 0 rfl) ?_
                    refine lv_iadd hx hb dX12_fill_106 ?_
                    obtain ⟨z_58, ez_58, hz_58⟩ := s_add (rfl : z_57.toInt = _) (rfl : g9.toInt = _) (by omega) (by omega)
                    refine sj_i ez_58 ?_
                    have bx_59 : (0 : Int) ≤ (i 396 (g9.toInt + 60 * r_36.toInt + 240 * v4.toInt).toNat).toInt ∧ (i 396 (g9.toInt + 60 * r_36.toInt + 240 * v4.toInt).toNat).toInt ≤ 65535 := hO 396 (g9.toInt + 60 * r_36.toInt + 240 * v4.toInt).toNat
                    refine h_cald hx hb hK hH (by decide) (rfl : kd 396 = 14) (s_vin (N := 9600) (rfl : z_58.toInt = _) (rfl : ln 396 = 9600) (by omega) (by omega)) dX12_fill_107 ?_
                    have ek_60 : z_58.toNatClampNeg = (g9.toInt + 60 * r_36.toInt + 240 * v4.toInt).toNat := (s_cl (show z_58.toInt = g9.toInt + 60 * r_36.toInt + 240 * v4.toInt by omega))
                    refine sj_i (y := (i 396 (g9.toInt + 60 * r_36.toInt + 240 * v4.toInt).toNat)) (by rw [ek_60]; exact ((hfr_j3 396 (g9.toInt + 60 * r_36.toInt + 240 * v4.toInt).toNat (by omega)).trans ((hfr_j1 396 (g9.toInt + 60 * r_36.toInt + 240 * v4.toInt).toNat (by omega)).trans (congrFun (up2_n _ _ (by decide)) _)))) ?_
                    refine x_callv (va_runV (As := [.int (i 396 (g9.toInt + 60 * r_36.toInt + 240 * v4.toInt).toNat)]) (rest := []) ⟨hx, hb, hml, hown, hts⟩ (m_add l D g ka ad j3 r L d (i 396 (g9.toInt + 60 * r_36.toInt + 240 * v4.toInt).toNat) hO_j3 hR H.size (by first | omega | decide) (by first | omega | decide)) (cwV 1 hts gX12_fill_X12_add rfl rfl rfl (by decide +kernel) ⟨(Nat.le_of_ble_eq_true rfl), (Nat.le_of_ble_eq_true rfl)⟩) (x_preV (q := (RX12, TX12, 86)) hH hK (q_obj (by decide) (rfl : kd 36 = 12) (by decide)) rfl gxb (gxw hE hS (x_F hH hS hA))) rfl rfl hl.1 rfl (lv_room (Nat.le_of_ble_eq_true rfl)) dX12_fill_108 ⟨(Nat.le_of_ble_eq_true rfl), (Nat.le_of_ble_eq_true rfl)⟩) hH hS hA rfl rfl (fun im_63 H locs hw_62 hH hS => ?_)
                    have hH : sj_H D A (hwc g ka im_63 r L d) H := hH
                    obtain ⟨hO_65, hfr_64, hx2_66⟩ := hw_62
                    obtain ⟨z_67, ez_67, hz_67⟩ := s_add (rfl : g9.toInt = _) (show (1 : Int32).toInt = 1 from rfl) (by omega) (by omega)
                    refine lv_iinc (v := z_67) (lv' := [(9, .int z_67), (8, .int z_44), (7, .int r_36), (6, .int f), (0, .ref (g 36)), (1, .ref (g 396)), (2, .int x), (3, .int y), (4, .int z), (5, .int v4)]) hx hb dX12_fill_111 hl (k := 0) rfl ez_67 (by decide) rfl (fun ls hl => ?_)
                    refine lv_goto (tgt := 82) hx hb dX12_fill_114 (by decide) ?_
                    exact ih_lp_45 z_67 _ _ _ ls (by omega) (by omega) (by omega) (bfA_s hi_lp_45_1 hx2_66 (hO_j3 36 40).1 (by rw [show (z_67).toInt.toNat = g9.toInt.toNat + 1 by omega, tgL_snoc]; congr 2; exact congrArg (fun q => (i 396 q).toInt) (by omega))) hO_65 (fun a b ha => ((hfr_64 a b (by omega)).trans (hfr_j3 a b (by omega)))) (lv_sub hl [0, 1, 2, 3, 4, 5, 6, 7, 8, 9] rfl) hH hS
              have hl_68 : (0 : Int32).toInt = 0 := rfl
              have hb395 : (0 : Int) ≤ (i 395 (r_36.toInt + 4 * v4.toInt).toNat).toInt ∧ (i 395 (r_36.toInt + 4 * v4.toInt).toNat).toInt ≤ 60 := hO 395 _
              exact lp_45 _ 0 _ _ _ ls (Nat.lt_succ_self _) (by omega) (by omega) (by rw [show (0 : Int32).toInt.toNat = 0 from rfl]; exact bfA_0 _) hO_j1 (fun a b ha => rfl) (lv_sub hl [0, 1, 2, 3, 4, 5, 6, 7, 8, 9] rfl) hH hS
            · skip
              have h_69 := s_nle (show (0 : Int32).toInt = 0 from rfl) (rfl : r_36.toInt = _) c_41
              refine lv_aload_n hx hb dX12_fill_54 rfl (lv_at hl 2 rfl) ?_
              refine lv_aload_n hx hb dX12_fill_55 rfl (lv_at hl 3 rfl) ?_
              refine lv_iload_n hx hb dX12_fill_56 rfl (lv_at hl 4 rfl) ?_
              refine lv_iload hx hb dX12_fill_57 (lv_at hl 1 rfl) ?_
              refine lv_iadd hx hb dX12_fill_59 ?_
              obtain ⟨z_70, ez_70, hz_70⟩ := s_add (rfl : x.toInt = _) (rfl : f.toInt = _) (by omega) (by omega)
              refine sj_i ez_70 ?_
              refine h_cald hx hb hK hH (by decide) (rfl : kd 396 = 14) (s_vin (N := 9600) (rfl : z_70.toInt = _) (rfl : ln 396 = 9600) (by omega) (by omega)) dX12_fill_60 ?_
              have ek_71 : z_70.toNatClampNeg = (f.toInt + x.toInt).toNat := (s_cl (show z_70.toInt = f.toInt + x.toInt by omega))
              refine sj_i (y := (i 396 (f.toInt + x.toInt).toNat)) (by rw [ek_71]; exact ((hfr_j1 396 (f.toInt + x.toInt).toNat (by omega)).trans (congrFun (up2_n _ _ (by decide)) _))) ?_
              refine x_callv (va_runV (As := [.int (i 396 (f.toInt + x.toInt).toNat)]) (rest := []) ⟨hx, hb, hml, hown, hts⟩ (m_add l D g ka ad j1 r L d (i 396 (f.toInt + x.toInt).toNat) hO_j1 hR H.size (by first | omega | decide) (by first | omega | decide)) (cwV 1 hts gX12_fill_X12_add rfl rfl rfl (by decide +kernel) ⟨(Nat.le_of_ble_eq_true rfl), (Nat.le_of_ble_eq_true rfl)⟩) (x_preV (q := (RX12, TX12, 86)) hH hK (q_obj (by decide) (rfl : kd 36 = 12) (by decide)) rfl gxb (gxw hE hS (x_F hH hS hA))) rfl rfl hl.1 rfl (lv_room (Nat.le_of_ble_eq_true rfl)) dX12_fill_61 ⟨(Nat.le_of_ble_eq_true rfl), (Nat.le_of_ble_eq_true rfl)⟩) hH hS hA rfl rfl (fun im_74 H locs hw_73 hH hS => ?_)
              have hH : sj_H D A (hwc g ka im_74 r L d) H := hH
              obtain ⟨hO_76, hfr_75, hx2_77⟩ := hw_73
              obtain ⟨z_78, ez_78, hz_78⟩ := s_add (rfl : f.toInt = _) (show (1 : Int32).toInt = 1 from rfl) (by omega) (by omega)
              refine lv_iinc (v := z_78) (lv' := [(6, .int z_78), (7, .int r_36), (0, .ref (g 36)), (1, .ref (g 396)), (2, .int x), (3, .int y), (4, .int z), (5, .int v4)]) hx hb dX12_fill_64 hl (k := 1) rfl ez_78 (by decide) rfl (fun ls hl => ?_)
              refine lv_goto (tgt := 136) hx hb dX12_fill_67 (by decide) ?_
              refine lv_goto (tgt := 8) hx hb dX12_fill_136 (by decide) ?_
              exact ih_lp_2 z_78 _ _ _ ls (by omega) (by omega) (flP_c hi_lp_2_0 (by omega) (Or.inr (by have h9 := hx2_40; rw [show z_35.toInt = f.toInt + 1 by omega, show r_36.toInt = -1 by omega] at h9; exact h9)) (by omega) (bfA_s (bfA_0 j1) hx2_77 (hO_j1 36 40).1 (by rw [hch]; rfl))) hO_76 (fun a b ha => ((hfr_75 a b (by omega)).trans (hfr_j1 a b (by omega)))) (lv_sub hl [0, 2, 3, 4, 5, 6, 7] rfl) hH hS
  have hl_79 : (0 : Int32).toInt = 0 := rfl
  have hp_80 : ((up2 i 36 40 0) 36 40).toInt = (0 : Int32).toInt := congrArg Int32.toInt ((up2_at _ _ _ _))
  have hl_81 : (0 : Int32).toInt = 0 := rfl
  exact lp_2 _ 0 _ _ _ ls (Nat.lt_succ_self _) (by omega) (by rw [show (0 : Int32).toInt = 0 from rfl]; exact flP_0 (by omega)) hO_1 (fun a b ha => rfl) (lv_sub hl [0, 1, 2, 3, 4, 5, 6] rfl) hH hS
set_option maxHeartbeats 2000000 in
set_option maxRecDepth 100000 in
theorem m_load (l : Launch) (D : va_G) (g : Nat → Nat) (ka : Nat → ClassId) (ad : Nat → Nat) (i : Nat → Nat → Int32) (r : Nat → Nat → Nat) (L : Nat → Nat → Int64) (d : Nat → Nat → UInt64) (x : Int32) (y : Int32) (hO : OkI i) (hR : RS r) (sz : Nat) (hx0 : 0 ≤ x.toInt) (hx1 : x.toInt ≤ 23) (hy0 : 0 ≤ y.toInt) (hy1 : y.toInt < mcs i x.toInt.toNat) (hnr : NR i) : Met l yX12_load wsX12_load ({ frames := 3, cells := 0, slots := 0, locals := 72 }) (va_Pc [.ref (g 36), .int x, .int y] (sj_B D (hwc g ka i r L d) (hT ka) sz (gx ad (va_A (hwc g ka i r L d) sz)))) (sj_Qv (S := (Nat → Nat → Int32)) D (fun u => OkI u ∧ (∀ a b, ¬ ((a = 36 ∧ (b = 40)) ∨ a = 402) → u a b = i a b) ∧ (ldR i x.toInt.toNat y.toInt (bfL u))) (fun u => hwc g ka u r L d) (fun _ => []) (va_A (hwc g ka i r L d) sz)) 0 0 (va_A (hwc g ka i r L d) sz) := by
  refine x_met (Ex := gx ad) (cc := cX12_load) (maxL := 5) (ret := none) (by decide) rfl (Nat.le_of_ble_eq_true rfl) ?_
  intro p e s m below meth c A ls hx hb hr hml hts hown hlocks hA hS hH hK hE hl
  have hown : s.vm.findClass RX12 = some m.cls := hown
  have in12 : ∀ w ∈ wsX120, w ∈ wsX12_load := (fun _ h => (List.mem_cons_of_mem _ (List.mem_append_right _ h)))
  have wd0 := hts (.fieldLink RX12 102 "StoryDeskModel" "stepOwner" "[I") (List.mem_cons_of_mem _ (List.mem_append_left _ (List.mem_append_left _ lm0)))
  have wd1 := hts (.fieldLink RX12 195 "StoryDeskModel" "caseScenario" "[I") (List.mem_cons_of_mem _ (List.mem_append_left _ (List.mem_append_left _ lm1)))
  have wd2 := hts (.fieldLink RX12 114 "StoryDeskModel" "stepText" "[C") (List.mem_cons_of_mem _ (List.mem_append_left _ (List.mem_append_left _ lm2)))
  have wd3 := hts (.fieldLink RX12 111 "StoryDeskModel" "stepSize" "[I") (List.mem_cons_of_mem _ (List.mem_append_left _ (List.mem_append_left _ lm3)))
  have wd4 := hts (.fieldLink RX12 201 "StoryDeskModel" "caseRow" "[I") (List.mem_cons_of_mem _ (List.mem_append_left _ (List.mem_append_left _ lm5)))
  have wd5 := hts (.fieldLink RX12 198 "StoryDeskModel" "caseNames" "[I") (List.mem_cons_of_mem _ (List.mem_append_left _ (List.mem_append_left _ lm4)))
  have hl : lv_has ls 5 [(0, .ref (g 36)), (1, .int x), (2, .int y)] := hl
  have hK : va_K D vwCl (hT ka) s := hK
  have hb17 : (0 : Int) ≤ (i 36 17).toInt ∧ (i 36 17).toInt ≤ 30 := hO 36 17
  have h397 : (0 : Int) ≤ (i 397 x.toInt.toNat).toInt ∧ (i 397 x.toInt.toNat).toInt ≤ 11 := hO 397 _
  have h385 : (0 : Int) ≤ (i 385 (i 397 x.toInt.toNat).toInt.toNat).toInt ∧ (i 385 (i 397 x.toInt.toNat).toInt.toNat).toInt ≤ 4 := hO 385 _
  have hmb := mbg_or i (i 397 x.toInt.toNat).toInt.toNat
  have hmc := mcs_or i x.toInt.toNat
  have hmr := mcs_r hO x.toInt.toNat
  have ha1 := mst_0 i (i 397 x.toInt.toNat).toInt
  have ha2 := mst_0 i 20
  have hz20 : (20 : Int32).toInt = 20 := rfl
  have hnr9 := hnr x.toInt.toNat
  refine lv_aload_n hx hb dX12_load_0 rfl (lv_at hl 0 rfl) ?_
  refine lv_iload_n hx hb dX12_load_1 rfl (lv_at hl 1 rfl) ?_
  refine lv_iload_n hx hb dX12_load_2 rfl (lv_at hl 2 rfl) ?_
  refine x_calli (va_runV (As := [.int x, .int y]) (rest := []) ⟨hx, hb, hml, hown, hts⟩ (m_caseStep l D g ka ad i r L d x y hO hR s.heap.size (by first | omega | decide) (by first | omega | decide) (by first | omega | decide) (by first | omega | decide)) (cwV 2 hts gX12_load_X12_caseStep rfl rfl rfl (by decide +kernel) ⟨(Nat.le_of_ble_eq_true rfl), (Nat.le_of_ble_eq_true rfl)⟩) (x_preV (q := (RX12, TX12, 86)) hH hK (q_obj (by decide) (rfl : kd 36 = 12) (by decide)) rfl gxb (gxw hE hS (x_F hH hS hA))) rfl rfl hl.1 rfl (lv_room (Nat.le_of_ble_eq_true rfl)) dX12_load_3 ⟨(Nat.le_of_ble_eq_true rfl), (Nat.le_of_ble_eq_true rfl)⟩) hH hS hA rfl rfl (fun r_1 _ H locs hw_2 hH hS => ?_)
  obtain ⟨hr_4, he_5, hx2_6⟩ := hw_2
  have hr_4 : (0 : Int) ≤ r_1.toInt ∧ r_1.toInt ≤ 29 := hr_4
  refine lv_istore_n (lv' := [(3, .int r_1), (0, .ref (g 36)), (1, .int x), (2, .int y)]) hx hb dX12_load_6 rfl hl (by decide) rfl (fun ls hl => ?_)
  refine lv_aload_n hx hb dX12_load_7 rfl (lv_at hl 1 rfl) ?_
  refine h_getr (ci := 12) (C := RX12) (F := TX12) (N := 86) hx hb hts in12 hown hK hH (by decide) (rfl : kd 36 = 12) (by decide) rfl 19 (by decide) wd0 (fun _ h9 => h9) (by decide) rfl (t := 386) (hR 36 19 rfl) (by decide) dX12_load_8 ?_
  refine lv_iload_n hx hb dX12_load_11 rfl (lv_at hl 0 rfl) ?_
  refine h_iald hx hb hK hH (by decide) (rfl : kd 386 = 13) (s_vin (N := 30) (rfl : r_1.toInt = _) (rfl : ln 386 = 30) (by omega) (by omega)) dX12_load_12 ?_
  have ek_7 : r_1.toNatClampNeg = (r_1.toInt).toNat := (s_cl (show r_1.toInt = r_1.toInt by omega))
  refine sj_i (y := (i 386 (r_1.toInt).toNat)) (by rw [ek_7]) ?_
  refine lv_aload_n hx hb dX12_load_13 rfl (lv_at hl 1 rfl) ?_
  refine h_getr (ci := 12) (C := RX12) (F := TX12) (N := 86) hx hb hts in12 hown hK hH (by decide) (rfl : kd 36 = 12) (by decide) rfl 34 (by decide) wd1 (fun _ h9 => h9) (by decide) rfl (t := 397) (hR 36 34 rfl) (by decide) dX12_load_14 ?_
  refine lv_iload_n hx hb dX12_load_17 rfl (lv_at hl 2 rfl) ?_
  have bx_8 : (0 : Int) ≤ (i 397 (x.toInt).toNat).toInt ∧ (i 397 (x.toInt).toNat).toInt ≤ 11 := hO 397 (x.toInt).toNat
  refine h_iald hx hb hK hH (by decide) (rfl : kd 397 = 13) (s_vin (N := 24) (rfl : x.toInt = _) (rfl : ln 397 = 24) (by omega) (by omega)) dX12_load_18 ?_
  have ek_9 : x.toNatClampNeg = (x.toInt).toNat := (s_cl (show x.toInt = x.toInt by omega))
  refine sj_i (y := (i 397 (x.toInt).toNat)) (by rw [ek_9]) ?_
  refine lv_icmp_ne (tgt := 26) hx hb dX12_load_19 (by decide) (fun c_10 => ?_) (fun c_10 => ?_)
  · skip
    have h_11 := s_ne (rfl : (i 386 (r_1.toInt).toNat).toInt = _) (rfl : (i 397 (x.toInt).toNat).toInt = _) c_10
    refine lv_iconst (v := 0) hx hb dX12_load_26 (by decide) ?_
    refine lv_istore (lv' := [(4, .int 0), (3, .int r_1), (0, .ref (g 36)), (1, .int x), (2, .int y)]) hx hb dX12_load_27 hl (by decide) rfl (fun ls hl => ?_)
    refine lv_aload_n hx hb dX12_load_29 rfl (lv_at hl 2 rfl) ?_
    refine lv_aload_n hx hb dX12_load_30 rfl (lv_at hl 2 rfl) ?_
    refine h_getr (ci := 12) (C := RX12) (F := TX12) (N := 86) hx hb hts in12 hown hK hH (by decide) (rfl : kd 36 = 12) (by decide) rfl 22 (by decide) wd2 (fun _ h9 => h9) (by decide) rfl (t := 389) (hR 36 22 rfl) (by decide) dX12_load_31 ?_
    refine lv_bipush (v := 60) hx hb dX12_load_34 (by decide) ?_
    refine lv_iload_n hx hb dX12_load_36 rfl (lv_at hl 1 rfl) ?_
    refine lv_imul hx hb dX12_load_37 ?_
    obtain ⟨z_12, ez_12, hz_12⟩ := s_mul (show (60 : Int32).toInt = 60 from rfl) (rfl : r_1.toInt = _) (by omega) (by omega)
    refine sj_i ez_12 ?_
    refine lv_aload_n hx hb dX12_load_38 rfl (lv_at hl 2 rfl) ?_
    refine h_getr (ci := 12) (C := RX12) (F := TX12) (N := 86) hx hb hts in12 hown hK hH (by decide) (rfl : kd 36 = 12) (by decide) rfl 21 (by decide) wd3 (fun _ h9 => h9) (by decide) rfl (t := 388) (hR 36 21 rfl) (by decide) dX12_load_39 ?_
    refine lv_iload_n hx hb dX12_load_42 rfl (lv_at hl 1 rfl) ?_
    have bx_13 : (0 : Int) ≤ (i 388 (r_1.toInt).toNat).toInt ∧ (i 388 (r_1.toInt).toNat).toInt ≤ 60 := hO 388 (r_1.toInt).toNat
    refine h_iald hx hb hK hH (by decide) (rfl : kd 388 = 13) (s_vin (N := 30) (rfl : r_1.toInt = _) (rfl : ln 388 = 30) (by omega) (by omega)) dX12_load_43 ?_
    have ek_14 : r_1.toNatClampNeg = (r_1.toInt).toNat := (s_cl (show r_1.toInt = r_1.toInt by omega))
    refine sj_i (y := (i 388 (r_1.toInt).toNat)) (by rw [ek_14]) ?_
    refine lv_iload hx hb dX12_load_44 (lv_at hl 0 rfl) ?_
    refine lv_if_eq (tgt := 58) hx hb dX12_load_46 (by decide) (fun _ => ?_) (fun h => absurd (by decide) h)
    refine lv_iconst (v := (-1)) hx hb dX12_load_58 (by decide) ?_
    refine lv_aload_n hx hb dX12_load_59 rfl (lv_at hl 2 rfl) ?_
    refine h_getr (ci := 12) (C := RX12) (F := TX12) (N := 86) hx hb hts in12 hown hK hH (by decide) (rfl : kd 36 = 12) (by decide) rfl 35 (by decide) wd4 (fun _ h9 => h9) (by decide) rfl (t := 398) (hR 36 35 rfl) (by decide) dX12_load_60 ?_
    refine lv_iload_n hx hb dX12_load_63 rfl (lv_at hl 3 rfl) ?_
    have bx_15 : (-1 : Int) ≤ (i 398 (x.toInt).toNat).toInt ∧ (i 398 (x.toInt).toNat).toInt ≤ 39 := hO 398 (x.toInt).toNat
    refine h_iald hx hb hK hH (by decide) (rfl : kd 398 = 13) (s_vin (N := 24) (rfl : x.toInt = _) (rfl : ln 398 = 24) (by omega) (by omega)) dX12_load_64 ?_
    have ek_16 : x.toNatClampNeg = (x.toInt).toNat := (s_cl (show x.toInt = x.toInt by omega))
    refine sj_i (y := (i 398 (x.toInt).toNat)) (by rw [ek_16]) ?_
    have hl_17 : ((-1) : Int32).toInt = -1 := rfl
    refine x_callv (va_runV (As := [.ref (g 389), .int z_12, .int (i 388 (r_1.toInt).toNat), .int (-1), .int (i 398 (x.toInt).toNat)]) (rest := []) ⟨hx, hb, hml, hown, hts⟩ (m_fill_s l D g ka ad i r L d z_12 (i 388 (r_1.toInt).toNat) (-1) (i 398 (x.toInt).toNat) hO hR H.size (by first | omega | decide) (by first | omega | decide) (by first | omega | decide) (by first | omega | decide) (by first | omega | decide) (by first | omega | decide) (by first | omega | decide) (by first | omega | decide) (by first | omega | decide)) (cwV 5 hts gX12_load_X12_fill rfl rfl rfl (by decide +kernel) ⟨(Nat.le_of_ble_eq_true rfl), (Nat.le_of_ble_eq_true rfl)⟩) (x_preV (q := (RX12, TX12, 86)) hH hK (q_obj (by decide) (rfl : kd 36 = 12) (by decide)) rfl gxb (gxw hE hS (x_F hH hS hA))) rfl rfl hl.1 rfl (lv_room (Nat.le_of_ble_eq_true rfl)) dX12_load_65 ⟨(Nat.le_of_ble_eq_true rfl), (Nat.le_of_ble_eq_true rfl)⟩) hH hS hA rfl rfl (fun im_20 H locs hw_19 hH hS => ?_)
    have hH : sj_H D A (hwc g ka im_20 r L d) H := hH
    obtain ⟨hO_22, hfr_21, hx2_23⟩ := hw_19
    obtain ⟨u9, m9, hfl, hbf⟩ := hx2_23
    have hnx : (if (i 386 r_1.toInt.toNat).toInt = (i 397 x.toInt.toNat).toInt then (i 399 x.toInt.toNat).toInt else -1) = ((-1) : Int32).toInt := by first | rw [if_pos (by omega)] | (rw [if_neg (by omega)]; rfl)
    have hV_24 : ldR i x.toInt.toNat y.toInt (bfL im_20) := ⟨r_1.toInt, hx2_6, u9, m9, (by rw [hnx, show 60 * r_1.toInt = z_12.toInt by omega]; exact hfl), hbf⟩
    exact sj_vret hx hb hr hlocks hS im_20 ⟨hO_22, (fun a b ha => (hfr_21 a b (by omega))), hV_24⟩ hH (sj_Knil hK) (Nat.le_of_ble_eq_true rfl) (Nat.le_of_ble_eq_true rfl) dX12_load_68
  · skip
    have h_25 := s_eq (rfl : (i 386 (r_1.toInt).toNat).toInt = _) (rfl : (i 397 (x.toInt).toNat).toInt = _) c_10
    refine lv_iconst (v := 1) hx hb dX12_load_22 (by decide) ?_
    refine lv_goto (tgt := 27) hx hb dX12_load_23 (by decide) ?_
    refine lv_istore (lv' := [(4, .int 1), (3, .int r_1), (0, .ref (g 36)), (1, .int x), (2, .int y)]) hx hb dX12_load_27 hl (by decide) rfl (fun ls hl => ?_)
    refine lv_aload_n hx hb dX12_load_29 rfl (lv_at hl 2 rfl) ?_
    refine lv_aload_n hx hb dX12_load_30 rfl (lv_at hl 2 rfl) ?_
    refine h_getr (ci := 12) (C := RX12) (F := TX12) (N := 86) hx hb hts in12 hown hK hH (by decide) (rfl : kd 36 = 12) (by decide) rfl 22 (by decide) wd2 (fun _ h9 => h9) (by decide) rfl (t := 389) (hR 36 22 rfl) (by decide) dX12_load_31 ?_
    refine lv_bipush (v := 60) hx hb dX12_load_34 (by decide) ?_
    refine lv_iload_n hx hb dX12_load_36 rfl (lv_at hl 1 rfl) ?_
    refine lv_imul hx hb dX12_load_37 ?_
    obtain ⟨z_26, ez_26, hz_26⟩ := s_mul (show (60 : Int32).toInt = 60 from rfl) (rfl : r_1.toInt = _) (by omega) (by omega)
    refine sj_i ez_26 ?_
    refine lv_aload_n hx hb dX12_load_38 rfl (lv_at hl 2 rfl) ?_
    refine h_getr (ci := 12) (C := RX12) (F := TX12) (N := 86) hx hb hts in12 hown hK hH (by decide) (rfl : kd 36 = 12) (by decide) rfl 21 (by decide) wd3 (fun _ h9 => h9) (by decide) rfl (t := 388) (hR 36 21 rfl) (by decide) dX12_load_39 ?_
    refine lv_iload_n hx hb dX12_load_42 rfl (lv_at hl 1 rfl) ?_
    have bx_27 : (0 : Int) ≤ (i 388 (r_1.toInt).toNat).toInt ∧ (i 388 (r_1.toInt).toNat).toInt ≤ 60 := hO 388 (r_1.toInt).toNat
    refine h_iald hx hb hK hH (by decide) (rfl : kd 388 = 13) (s_vin (N := 30) (rfl : r_1.toInt = _) (rfl : ln 388 = 30) (by omega) (by omega)) dX12_load_43 ?_
    have ek_28 : r_1.toNatClampNeg = (r_1.toInt).toNat := (s_cl (show r_1.toInt = r_1.toInt by omega))
    refine sj_i (y := (i 388 (r_1.toInt).toNat)) (by rw [ek_28]) ?_
    refine lv_iload hx hb dX12_load_44 (lv_at hl 0 rfl) ?_
    refine lv_if_eq (tgt := 58) hx hb dX12_load_46 (by decide) (fun h => absurd h (by decide)) (fun _ => ?_)
    refine lv_aload_n hx hb dX12_load_49 rfl (lv_at hl 2 rfl) ?_
    refine h_getr (ci := 12) (C := RX12) (F := TX12) (N := 86) hx hb hts in12 hown hK hH (by decide) (rfl : kd 36 = 12) (by decide) rfl 36 (by decide) wd5 (fun _ h9 => h9) (by decide) rfl (t := 399) (hR 36 36 rfl) (by decide) dX12_load_50 ?_
    refine lv_iload_n hx hb dX12_load_53 rfl (lv_at hl 3 rfl) ?_
    have bx_29 : (-1 : Int) ≤ (i 399 (x.toInt).toNat).toInt ∧ (i 399 (x.toInt).toNat).toInt ≤ 39 := hO 399 (x.toInt).toNat
    refine h_iald hx hb hK hH (by decide) (rfl : kd 399 = 13) (s_vin (N := 24) (rfl : x.toInt = _) (rfl : ln 399 = 24) (by omega) (by omega)) dX12_load_54 ?_
    have ek_30 : x.toNatClampNeg = (x.toInt).toNat := (s_cl (show x.toInt = x.toInt by omega))
    refine sj_i (y := (i 399 (x.toInt).toNat)) (by rw [ek_30]) ?_
    refine lv_goto (tgt := 59) hx hb dX12_load_55 (by decide) ?_
    refine lv_aload_n hx hb dX12_load_59 rfl (lv_at hl 2 rfl) ?_
    refine h_getr (ci := 12) (C := RX12) (F := TX12) (N := 86) hx hb hts in12 hown hK hH (by decide) (rfl : kd 36 = 12) (by decide) rfl 35 (by decide) wd4 (fun _ h9 => h9) (by decide) rfl (t := 398) (hR 36 35 rfl) (by decide) dX12_load_60 ?_
    refine lv_iload_n hx hb dX12_load_63 rfl (lv_at hl 3 rfl) ?_
    have bx_31 : (-1 : Int) ≤ (i 398 (x.toInt).toNat).toInt ∧ (i 398 (x.toInt).toNat).toInt ≤ 39 := hO 398 (x.toInt).toNat
    refine h_iald hx hb hK hH (by decide) (rfl : kd 398 = 13) (s_vin (N := 24) (rfl : x.toInt = _) (rfl : ln 398 = 24) (by omega) (by omega)) dX12_load_64 ?_
    have ek_32 : x.toNatClampNeg = (x.toInt).toNat := (s_cl (show x.toInt = x.toInt by omega))
    refine sj_i (y := (i 398 (x.toInt).toNat)) (by rw [ek_32]) ?_
    refine x_callv (va_runV (As := [.ref (g 389), .int z_26, .int (i 388 (r_1.toInt).toNat), .int (i 399 (x.toInt).toNat), .int (i 398 (x.toInt).toNat)]) (rest := []) ⟨hx, hb, hml, hown, hts⟩ (m_fill_s l D g ka ad i r L d z_26 (i 388 (r_1.toInt).toNat) (i 399 (x.toInt).toNat) (i 398 (x.toInt).toNat) hO hR H.size (by first | omega | decide) (by first | omega | decide) (by first | omega | decide) (by first | omega | decide) (by first | omega | decide) (by first | omega | decide) (by first | omega | decide) (by first | omega | decide) (by first | omega | decide)) (cwV 5 hts gX12_load_X12_fill rfl rfl rfl (by decide +kernel) ⟨(Nat.le_of_ble_eq_true rfl), (Nat.le_of_ble_eq_true rfl)⟩) (x_preV (q := (RX12, TX12, 86)) hH hK (q_obj (by decide) (rfl : kd 36 = 12) (by decide)) rfl gxb (gxw hE hS (x_F hH hS hA))) rfl rfl hl.1 rfl (lv_room (Nat.le_of_ble_eq_true rfl)) dX12_load_65 ⟨(Nat.le_of_ble_eq_true rfl), (Nat.le_of_ble_eq_true rfl)⟩) hH hS hA rfl rfl (fun im_35 H locs hw_34 hH hS => ?_)
    have hH : sj_H D A (hwc g ka im_35 r L d) H := hH
    obtain ⟨hO_37, hfr_36, hx2_38⟩ := hw_34
    obtain ⟨u9, m9, hfl, hbf⟩ := hx2_38
    have hnx : (if (i 386 r_1.toInt.toNat).toInt = (i 397 x.toInt.toNat).toInt then (i 399 x.toInt.toNat).toInt else -1) = ((i 399 (x.toInt).toNat) : Int32).toInt := by first | rw [if_pos (by omega)] | (rw [if_neg (by omega)]; rfl)
    have hV_39 : ldR i x.toInt.toNat y.toInt (bfL im_35) := ⟨r_1.toInt, hx2_6, u9, m9, (by rw [hnx, show 60 * r_1.toInt = z_26.toInt by omega]; exact hfl), hbf⟩
    exact sj_vret hx hb hr hlocks hS im_35 ⟨hO_37, (fun a b ha => (hfr_36 a b (by omega))), hV_39⟩ hH (sj_Knil hK) (Nat.le_of_ble_eq_true rfl) (Nat.le_of_ble_eq_true rfl) dX12_load_68
set_option maxHeartbeats 2000000 in
set_option maxRecDepth 100000 in
theorem m_loadCell (l : Launch) (D : va_G) (g : Nat → Nat) (ka : Nat → ClassId) (ad : Nat → Nat) (i : Nat → Nat → Int32) (r : Nat → Nat → Nat) (L : Nat → Nat → Int64) (d : Nat → Nat → UInt64) (x : Int32) (y : Int32) (z : Int32) (v4 : Int32) (hO : OkI i) (hR : RS r) (sz : Nat) (hx0 : 0 ≤ x.toInt) (hx1 : x.toInt ≤ 23) (hy0 : 0 ≤ y.toInt) (hy1 : y.toInt ≤ 29) (hz0 : 0 ≤ z.toInt) (hz1 : z.toInt ≤ 39) (hv0 : 0 ≤ v4.toInt) (hv1 : v4.toInt ≤ 3) (hnr : NR i) : Met l yX12_loadCell wsX12_loadCell ({ frames := 2, cells := 0, slots := 0, locals := 59 }) (va_Pc [.ref (g 36), .int x, .int y, .int z, .int v4] (sj_B D (hwc g ka i r L d) (hT ka) sz (gx ad (va_A (hwc g ka i r L d) sz)))) (sj_Qv (S := (Nat → Nat → Int32)) D (fun u => OkI u ∧ (∀ a b, ¬ ((a = 36 ∧ (b = 40)) ∨ a = 402) → u a b = i a b)) (fun u => hwc g ka u r L d) (fun _ => []) (va_A (hwc g ka i r L d) sz)) 0 0 (va_A (hwc g ka i r L d) sz) := by
  refine x_met (Ex := gx ad) (cc := cX12_loadCell) (maxL := 7) (ret := none) (by decide) rfl (Nat.le_of_ble_eq_true rfl) ?_
  intro p e s m below meth c A ls hx hb hr hml hts hown hlocks hA hS hH hK hE hl
  have hown : s.vm.findClass RX12 = some m.cls := hown
  have in12 : ∀ w ∈ wsX120, w ∈ wsX12_loadCell := (fun _ h => (List.mem_cons_of_mem _ (List.mem_append_right _ h)))
  have wd0 := hts (.fieldLink RX12 102 "StoryDeskModel" "stepOwner" "[I") (List.mem_cons_of_mem _ (List.mem_append_left _ lm0))
  have wd1 := hts (.fieldLink RX12 195 "StoryDeskModel" "caseScenario" "[I") (List.mem_cons_of_mem _ (List.mem_append_left _ lm1))
  have wd2 := hts (.fieldLink RX12 96 "StoryDeskModel" "cellText" "[C") (List.mem_cons_of_mem _ (List.mem_append_left _ lm2))
  have wd3 := hts (.fieldLink RX12 93 "StoryDeskModel" "cellSize" "[I") (List.mem_cons_of_mem _ (List.mem_append_left _ lm3))
  have wd4 := hts (.fieldLink RX12 201 "StoryDeskModel" "caseRow" "[I") (List.mem_cons_of_mem _ (List.mem_append_left _ lm5))
  have wd5 := hts (.fieldLink RX12 198 "StoryDeskModel" "caseNames" "[I") (List.mem_cons_of_mem _ (List.mem_append_left _ lm4))
  have hl : lv_has ls 7 [(0, .ref (g 36)), (1, .int x), (2, .int y), (3, .int z), (4, .int v4)] := hl
  have hK : va_K D vwCl (hT ka) s := hK
  have hnr9 := hnr x.toInt.toNat
  refine lv_aload_n hx hb dX12_loadCell_0 rfl (lv_at hl 0 rfl) ?_
  refine h_getr (ci := 12) (C := RX12) (F := TX12) (N := 86) hx hb hts in12 hown hK hH (by decide) (rfl : kd 36 = 12) (by decide) rfl 19 (by decide) wd0 (fun _ h9 => h9) (by decide) rfl (t := 386) (hR 36 19 rfl) (by decide) dX12_loadCell_1 ?_
  refine lv_iload_n hx hb dX12_loadCell_4 rfl (lv_at hl 2 rfl) ?_
  refine h_iald hx hb hK hH (by decide) (rfl : kd 386 = 13) (s_vin (N := 30) (rfl : y.toInt = _) (rfl : ln 386 = 30) (by omega) (by omega)) dX12_loadCell_5 ?_
  have ek_1 : y.toNatClampNeg = (y.toInt).toNat := (s_cl (show y.toInt = y.toInt by omega))
  refine sj_i (y := (i 386 (y.toInt).toNat)) (by rw [ek_1]) ?_
  refine lv_aload_n hx hb dX12_loadCell_6 rfl (lv_at hl 0 rfl) ?_
  refine h_getr (ci := 12) (C := RX12) (F := TX12) (N := 86) hx hb hts in12 hown hK hH (by decide) (rfl : kd 36 = 12) (by decide) rfl 34 (by decide) wd1 (fun _ h9 => h9) (by decide) rfl (t := 397) (hR 36 34 rfl) (by decide) dX12_loadCell_7 ?_
  refine lv_iload_n hx hb dX12_loadCell_10 rfl (lv_at hl 1 rfl) ?_
  have bx_2 : (0 : Int) ≤ (i 397 (x.toInt).toNat).toInt ∧ (i 397 (x.toInt).toNat).toInt ≤ 11 := hO 397 (x.toInt).toNat
  refine h_iald hx hb hK hH (by decide) (rfl : kd 397 = 13) (s_vin (N := 24) (rfl : x.toInt = _) (rfl : ln 397 = 24) (by omega) (by omega)) dX12_loadCell_11 ?_
  have ek_3 : x.toNatClampNeg = (x.toInt).toNat := (s_cl (show x.toInt = x.toInt by omega))
  refine sj_i (y := (i 397 (x.toInt).toNat)) (by rw [ek_3]) ?_
  refine lv_icmp_ne (tgt := 19) hx hb dX12_loadCell_12 (by decide) (fun c_4 => ?_) (fun c_4 => ?_)
  · skip
    have h_5 := s_ne (rfl : (i 386 (y.toInt).toNat).toInt = _) (rfl : (i 397 (x.toInt).toNat).toInt = _) c_4
    refine lv_iconst (v := 0) hx hb dX12_loadCell_19 (by decide) ?_
    refine lv_istore (lv' := [(5, .int 0), (0, .ref (g 36)), (1, .int x), (2, .int y), (3, .int z), (4, .int v4)]) hx hb dX12_loadCell_20 hl (by decide) rfl (fun ls hl => ?_)
    refine lv_iconst (v := 4) hx hb dX12_loadCell_22 (by decide) ?_
    refine lv_iload_n hx hb dX12_loadCell_23 rfl (lv_at hl 4 rfl) ?_
    refine lv_imul hx hb dX12_loadCell_24 ?_
    obtain ⟨z_6, ez_6, hz_6⟩ := s_mul (show (4 : Int32).toInt = 4 from rfl) (rfl : z.toInt = _) (by omega) (by omega)
    refine sj_i ez_6 ?_
    refine lv_iload hx hb dX12_loadCell_25 (lv_at hl 5 rfl) ?_
    refine lv_iadd hx hb dX12_loadCell_27 ?_
    obtain ⟨z_7, ez_7, hz_7⟩ := s_add (rfl : z_6.toInt = _) (rfl : v4.toInt = _) (by omega) (by omega)
    refine sj_i ez_7 ?_
    refine lv_istore (lv' := [(6, .int z_7), (5, .int 0), (0, .ref (g 36)), (1, .int x), (2, .int y), (3, .int z), (4, .int v4)]) hx hb dX12_loadCell_28 hl (by decide) rfl (fun ls hl => ?_)
    refine lv_aload_n hx hb dX12_loadCell_30 rfl (lv_at hl 2 rfl) ?_
    refine lv_aload_n hx hb dX12_loadCell_31 rfl (lv_at hl 2 rfl) ?_
    refine h_getr (ci := 12) (C := RX12) (F := TX12) (N := 86) hx hb hts in12 hown hK hH (by decide) (rfl : kd 36 = 12) (by decide) rfl 32 (by decide) wd2 (fun _ h9 => h9) (by decide) rfl (t := 396) (hR 36 32 rfl) (by decide) dX12_loadCell_32 ?_
    refine lv_bipush (v := 60) hx hb dX12_loadCell_35 (by decide) ?_
    refine lv_iload hx hb dX12_loadCell_37 (lv_at hl 0 rfl) ?_
    refine lv_imul hx hb dX12_loadCell_39 ?_
    obtain ⟨z_8, ez_8, hz_8⟩ := s_mul (show (60 : Int32).toInt = 60 from rfl) (rfl : z_7.toInt = _) (by omega) (by omega)
    refine sj_i ez_8 ?_
    refine lv_aload_n hx hb dX12_loadCell_40 rfl (lv_at hl 2 rfl) ?_
    refine h_getr (ci := 12) (C := RX12) (F := TX12) (N := 86) hx hb hts in12 hown hK hH (by decide) (rfl : kd 36 = 12) (by decide) rfl 31 (by decide) wd3 (fun _ h9 => h9) (by decide) rfl (t := 395) (hR 36 31 rfl) (by decide) dX12_loadCell_41 ?_
    refine lv_iload hx hb dX12_loadCell_44 (lv_at hl 0 rfl) ?_
    have bx_9 : (0 : Int) ≤ (i 395 (v4.toInt + 4 * z.toInt).toNat).toInt ∧ (i 395 (v4.toInt + 4 * z.toInt).toNat).toInt ≤ 60 := hO 395 (v4.toInt + 4 * z.toInt).toNat
    refine h_iald hx hb hK hH (by decide) (rfl : kd 395 = 13) (s_vin (N := 160) (rfl : z_7.toInt = _) (rfl : ln 395 = 160) (by omega) (by omega)) dX12_loadCell_46 ?_
    have ek_10 : z_7.toNatClampNeg = (v4.toInt + 4 * z.toInt).toNat := (s_cl (show z_7.toInt = v4.toInt + 4 * z.toInt by omega))
    refine sj_i (y := (i 395 (v4.toInt + 4 * z.toInt).toNat)) (by rw [ek_10]) ?_
    refine lv_iload hx hb dX12_loadCell_47 (lv_at hl 1 rfl) ?_
    refine lv_if_eq (tgt := 61) hx hb dX12_loadCell_49 (by decide) (fun _ => ?_) (fun h => absurd (by decide) h)
    refine lv_iconst (v := (-1)) hx hb dX12_loadCell_61 (by decide) ?_
    refine lv_aload_n hx hb dX12_loadCell_62 rfl (lv_at hl 2 rfl) ?_
    refine h_getr (ci := 12) (C := RX12) (F := TX12) (N := 86) hx hb hts in12 hown hK hH (by decide) (rfl : kd 36 = 12) (by decide) rfl 35 (by decide) wd4 (fun _ h9 => h9) (by decide) rfl (t := 398) (hR 36 35 rfl) (by decide) dX12_loadCell_63 ?_
    refine lv_iload_n hx hb dX12_loadCell_66 rfl (lv_at hl 3 rfl) ?_
    have bx_11 : (-1 : Int) ≤ (i 398 (x.toInt).toNat).toInt ∧ (i 398 (x.toInt).toNat).toInt ≤ 39 := hO 398 (x.toInt).toNat
    refine h_iald hx hb hK hH (by decide) (rfl : kd 398 = 13) (s_vin (N := 24) (rfl : x.toInt = _) (rfl : ln 398 = 24) (by omega) (by omega)) dX12_loadCell_67 ?_
    have ek_12 : x.toNatClampNeg = (x.toInt).toNat := (s_cl (show x.toInt = x.toInt by omega))
    refine sj_i (y := (i 398 (x.toInt).toNat)) (by rw [ek_12]) ?_
    have hl_13 : ((-1) : Int32).toInt = -1 := rfl
    refine x_callv (va_runV (As := [.ref (g 396), .int z_8, .int (i 395 (v4.toInt + 4 * z.toInt).toNat), .int (-1), .int (i 398 (x.toInt).toNat)]) (rest := []) ⟨hx, hb, hml, hown, hts⟩ (m_fill_c l D g ka ad i r L d z_8 (i 395 (v4.toInt + 4 * z.toInt).toNat) (-1) (i 398 (x.toInt).toNat) hO hR s.heap.size (by first | omega | decide) (by first | omega | decide) (by first | omega | decide) (by first | omega | decide) (by first | omega | decide) (by first | omega | decide) (by first | omega | decide) (by first | omega | decide) (by first | omega | decide)) (cwV 5 hts gX12_loadCell_X12_fill rfl rfl rfl (by decide +kernel) ⟨(Nat.le_of_ble_eq_true rfl), (Nat.le_of_ble_eq_true rfl)⟩) (x_preV (q := (RX12, TX12, 86)) hH hK (q_obj (by decide) (rfl : kd 36 = 12) (by decide)) rfl gxb (gxw hE hS (x_F hH hS hA))) rfl rfl hl.1 rfl (lv_room (Nat.le_of_ble_eq_true rfl)) dX12_loadCell_68 ⟨(Nat.le_of_ble_eq_true rfl), (Nat.le_of_ble_eq_true rfl)⟩) hH hS hA rfl rfl (fun im_16 H locs hw_15 hH hS => ?_)
    have hH : sj_H D A (hwc g ka im_16 r L d) H := hH
    obtain ⟨hO_18, hfr_17, hx2_19⟩ := hw_15
    exact sj_vret hx hb hr hlocks hS im_16 ⟨hO_18, (fun a b ha => (hfr_17 a b (by omega)))⟩ hH (sj_Knil hK) (Nat.le_of_ble_eq_true rfl) (Nat.le_of_ble_eq_true rfl) dX12_loadCell_71
  · skip
    have h_20 := s_eq (rfl : (i 386 (y.toInt).toNat).toInt = _) (rfl : (i 397 (x.toInt).toNat).toInt = _) c_4
    refine lv_iconst (v := 1) hx hb dX12_loadCell_15 (by decide) ?_
    refine lv_goto (tgt := 20) hx hb dX12_loadCell_16 (by decide) ?_
    refine lv_istore (lv' := [(5, .int 1), (0, .ref (g 36)), (1, .int x), (2, .int y), (3, .int z), (4, .int v4)]) hx hb dX12_loadCell_20 hl (by decide) rfl (fun ls hl => ?_)
    refine lv_iconst (v := 4) hx hb dX12_loadCell_22 (by decide) ?_
    refine lv_iload_n hx hb dX12_loadCell_23 rfl (lv_at hl 4 rfl) ?_
    refine lv_imul hx hb dX12_loadCell_24 ?_
    obtain ⟨z_21, ez_21, hz_21⟩ := s_mul (show (4 : Int32).toInt = 4 from rfl) (rfl : z.toInt = _) (by omega) (by omega)
    refine sj_i ez_21 ?_
    refine lv_iload hx hb dX12_loadCell_25 (lv_at hl 5 rfl) ?_
    refine lv_iadd hx hb dX12_loadCell_27 ?_
    obtain ⟨z_22, ez_22, hz_22⟩ := s_add (rfl : z_21.toInt = _) (rfl : v4.toInt = _) (by omega) (by omega)
    refine sj_i ez_22 ?_
    refine lv_istore (lv' := [(6, .int z_22), (5, .int 1), (0, .ref (g 36)), (1, .int x), (2, .int y), (3, .int z), (4, .int v4)]) hx hb dX12_loadCell_28 hl (by decide) rfl (fun ls hl => ?_)
    refine lv_aload_n hx hb dX12_loadCell_30 rfl (lv_at hl 2 rfl) ?_
    refine lv_aload_n hx hb dX12_loadCell_31 rfl (lv_at hl 2 rfl) ?_
    refine h_getr (ci := 12) (C := RX12) (F := TX12) (N := 86) hx hb hts in12 hown hK hH (by decide) (rfl : kd 36 = 12) (by decide) rfl 32 (by decide) wd2 (fun _ h9 => h9) (by decide) rfl (t := 396) (hR 36 32 rfl) (by decide) dX12_loadCell_32 ?_
    refine lv_bipush (v := 60) hx hb dX12_loadCell_35 (by decide) ?_
    refine lv_iload hx hb dX12_loadCell_37 (lv_at hl 0 rfl) ?_
    refine lv_imul hx hb dX12_loadCell_39 ?_
    obtain ⟨z_23, ez_23, hz_23⟩ := s_mul (show (60 : Int32).toInt = 60 from rfl) (rfl : z_22.toInt = _) (by omega) (by omega)
    refine sj_i ez_23 ?_
    refine lv_aload_n hx hb dX12_loadCell_40 rfl (lv_at hl 2 rfl) ?_
    refine h_getr (ci := 12) (C := RX12) (F := TX12) (N := 86) hx hb hts in12 hown hK hH (by decide) (rfl : kd 36 = 12) (by decide) rfl 31 (by decide) wd3 (fun _ h9 => h9) (by decide) rfl (t := 395) (hR 36 31 rfl) (by decide) dX12_loadCell_41 ?_
    refine lv_iload hx hb dX12_loadCell_44 (lv_at hl 0 rfl) ?_
    have bx_24 : (0 : Int) ≤ (i 395 (v4.toInt + 4 * z.toInt).toNat).toInt ∧ (i 395 (v4.toInt + 4 * z.toInt).toNat).toInt ≤ 60 := hO 395 (v4.toInt + 4 * z.toInt).toNat
    refine h_iald hx hb hK hH (by decide) (rfl : kd 395 = 13) (s_vin (N := 160) (rfl : z_22.toInt = _) (rfl : ln 395 = 160) (by omega) (by omega)) dX12_loadCell_46 ?_
    have ek_25 : z_22.toNatClampNeg = (v4.toInt + 4 * z.toInt).toNat := (s_cl (show z_22.toInt = v4.toInt + 4 * z.toInt by omega))
    refine sj_i (y := (i 395 (v4.toInt + 4 * z.toInt).toNat)) (by rw [ek_25]) ?_
    refine lv_iload hx hb dX12_loadCell_47 (lv_at hl 1 rfl) ?_
    refine lv_if_eq (tgt := 61) hx hb dX12_loadCell_49 (by decide) (fun h => absurd h (by decide)) (fun _ => ?_)
    refine lv_aload_n hx hb dX12_loadCell_52 rfl (lv_at hl 2 rfl) ?_
    refine h_getr (ci := 12) (C := RX12) (F := TX12) (N := 86) hx hb hts in12 hown hK hH (by decide) (rfl : kd 36 = 12) (by decide) rfl 36 (by decide) wd5 (fun _ h9 => h9) (by decide) rfl (t := 399) (hR 36 36 rfl) (by decide) dX12_loadCell_53 ?_
    refine lv_iload_n hx hb dX12_loadCell_56 rfl (lv_at hl 3 rfl) ?_
    have bx_26 : (-1 : Int) ≤ (i 399 (x.toInt).toNat).toInt ∧ (i 399 (x.toInt).toNat).toInt ≤ 39 := hO 399 (x.toInt).toNat
    refine h_iald hx hb hK hH (by decide) (rfl : kd 399 = 13) (s_vin (N := 24) (rfl : x.toInt = _) (rfl : ln 399 = 24) (by omega) (by omega)) dX12_loadCell_57 ?_
    have ek_27 : x.toNatClampNeg = (x.toInt).toNat := (s_cl (show x.toInt = x.toInt by omega))
    refine sj_i (y := (i 399 (x.toInt).toNat)) (by rw [ek_27]) ?_
    refine lv_goto (tgt := 62) hx hb dX12_loadCell_58 (by decide) ?_
    refine lv_aload_n hx hb dX12_loadCell_62 rfl (lv_at hl 2 rfl) ?_
    refine h_getr (ci := 12) (C := RX12) (F := TX12) (N := 86) hx hb hts in12 hown hK hH (by decide) (rfl : kd 36 = 12) (by decide) rfl 35 (by decide) wd4 (fun _ h9 => h9) (by decide) rfl (t := 398) (hR 36 35 rfl) (by decide) dX12_loadCell_63 ?_
    refine lv_iload_n hx hb dX12_loadCell_66 rfl (lv_at hl 3 rfl) ?_
    have bx_28 : (-1 : Int) ≤ (i 398 (x.toInt).toNat).toInt ∧ (i 398 (x.toInt).toNat).toInt ≤ 39 := hO 398 (x.toInt).toNat
    refine h_iald hx hb hK hH (by decide) (rfl : kd 398 = 13) (s_vin (N := 24) (rfl : x.toInt = _) (rfl : ln 398 = 24) (by omega) (by omega)) dX12_loadCell_67 ?_
    have ek_29 : x.toNatClampNeg = (x.toInt).toNat := (s_cl (show x.toInt = x.toInt by omega))
    refine sj_i (y := (i 398 (x.toInt).toNat)) (by rw [ek_29]) ?_
    refine x_callv (va_runV (As := [.ref (g 396), .int z_23, .int (i 395 (v4.toInt + 4 * z.toInt).toNat), .int (i 399 (x.toInt).toNat), .int (i 398 (x.toInt).toNat)]) (rest := []) ⟨hx, hb, hml, hown, hts⟩ (m_fill_c l D g ka ad i r L d z_23 (i 395 (v4.toInt + 4 * z.toInt).toNat) (i 399 (x.toInt).toNat) (i 398 (x.toInt).toNat) hO hR s.heap.size (by first | omega | decide) (by first | omega | decide) (by first | omega | decide) (by first | omega | decide) (by first | omega | decide) (by first | omega | decide) (by first | omega | decide) (by first | omega | decide) (by first | omega | decide)) (cwV 5 hts gX12_loadCell_X12_fill rfl rfl rfl (by decide +kernel) ⟨(Nat.le_of_ble_eq_true rfl), (Nat.le_of_ble_eq_true rfl)⟩) (x_preV (q := (RX12, TX12, 86)) hH hK (q_obj (by decide) (rfl : kd 36 = 12) (by decide)) rfl gxb (gxw hE hS (x_F hH hS hA))) rfl rfl hl.1 rfl (lv_room (Nat.le_of_ble_eq_true rfl)) dX12_loadCell_68 ⟨(Nat.le_of_ble_eq_true rfl), (Nat.le_of_ble_eq_true rfl)⟩) hH hS hA rfl rfl (fun im_32 H locs hw_31 hH hS => ?_)
    have hH : sj_H D A (hwc g ka im_32 r L d) H := hH
    obtain ⟨hO_34, hfr_33, hx2_35⟩ := hw_31
    exact sj_vret hx hb hr hlocks hS im_32 ⟨hO_34, (fun a b ha => (hfr_33 a b (by omega)))⟩ hH (sj_Knil hK) (Nat.le_of_ble_eq_true rfl) (Nat.le_of_ble_eq_true rfl) dX12_loadCell_71
