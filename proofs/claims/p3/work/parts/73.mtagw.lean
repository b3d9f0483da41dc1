theorem tagW_skp {f : Nat → Int32} {a b v : Int} {s : Int32} (h0 : 0 ≤ a) (h : skp f a b v) : tagW (lnL f a b) s = tagW (lnL f v b) s := by
  obtain ⟨h1, h2, h3, _⟩ := h
  obtain ⟨n, hn⟩ : ∃ n : Nat, v = a + (n : Int) := ⟨(v - a).toNat, by omega⟩
  have key : ∀ k : Nat, k ≤ n → tagW (lnL f a b) s = tagW (lnL f (a + (k : Int)) b) s := by
    intro k
    induction k with
    | zero => intro _; rw [show a + ((0 : Nat) : Int) = a by omega]
    | succ k ih =>
      intro hk
      rw [ih (by omega), tagW_sp (by omega) (by omega) (h3 (a + (k : Int)).toNat (by omega) (by omega)), show a + (k : Int) + 1 = a + ((k + 1 : Nat) : Int) by omega]
  rw [hn]; exact key n (Nat.le_refl _)
theorem dX12_tags_0 : decode cX12_tags 0 = .ok (.iconst 0, 1) := by decide +kernel
theorem dX12_tags_1 : decode cX12_tags 1 = .ok (.istore_n 1, 1) := by decide +kernel
theorem dX12_tags_2 : decode cX12_tags 2 = .ok (.iconst 0, 1) := by decide +kernel
theorem dX12_tags_3 : decode cX12_tags 3 = .ok (.istore_n 2, 1) := by decide +kernel
theorem dX12_tags_4 : decode cX12_tags 4 = .ok (.iload_n 2, 1) := by decide +kernel
theorem dX12_tags_5 : decode cX12_tags 5 = .ok (.aload_n 0, 1) := by decide +kernel
theorem dX12_tags_6 : decode cX12_tags 6 = .ok (.getfield 16, 3) := by decide +kernel
theorem dX12_tags_9 : decode cX12_tags 9 = .ok (.if_icmp .ge 123, 3) := by decide +kernel
theorem dX12_tags_132 : decode cX12_tags 132 = .ok (.aload_n 0, 1) := by decide +kernel
theorem dX12_tags_133 : decode cX12_tags 133 = .ok (.dup, 1) := by decide +kernel
theorem dX12_tags_134 : decode cX12_tags 134 = .ok (.getfield 64, 3) := by decide +kernel
theorem dX12_tags_137 : decode cX12_tags 137 = .ok (.iload_n 1, 1) := by decide +kernel
theorem dX12_tags_138 : decode cX12_tags 138 = .ok (.ior, 1) := by decide +kernel
theorem dX12_tags_139 : decode cX12_tags 139 = .ok (.putfield 64, 3) := by decide +kernel
theorem dX12_tags_142 : decode cX12_tags 142 = .ok (.aload_n 0, 1) := by decide +kernel
theorem dX12_tags_143 : decode cX12_tags 143 = .ok (.iconst 1, 1) := by decide +kernel
theorem dX12_tags_144 : decode cX12_tags 144 = .ok (.putfield 46, 3) := by decide +kernel
theorem dX12_tags_147 : decode cX12_tags 147 = .ok (.iconst 0, 1) := by decide +kernel
theorem dX12_tags_148 : decode cX12_tags 148 = .ok (.ireturn, 1) := by decide +kernel
theorem dX12_tags_12 : decode cX12_tags 12 = .ok (.aload_n 0, 1) := by decide +kernel
theorem dX12_tags_13 : decode cX12_tags 13 = .ok (.getfield 19, 3) := by decide +kernel
theorem dX12_tags_16 : decode cX12_tags 16 = .ok (.iload_n 2, 1) := by decide +kernel
theorem dX12_tags_17 : decode cX12_tags 17 = .ok (.caload, 1) := by decide +kernel
theorem dX12_tags_18 : decode cX12_tags 18 = .ok (.bipush 64, 2) := by decide +kernel
theorem dX12_tags_20 : decode cX12_tags 20 = .ok (.if_icmp .ne 54, 3) := by decide +kernel
theorem dX12_tags_74 : decode cX12_tags 74 = .ok (.iconst 0, 1) := by decide +kernel
theorem dX12_tags_75 : decode cX12_tags 75 = .ok (.istore_n 3, 1) := by decide +kernel
theorem dX12_tags_76 : decode cX12_tags 76 = .ok (.iload_n 3, 1) := by decide +kernel
theorem dX12_tags_77 : decode cX12_tags 77 = .ok (.ifCond .ne 5, 3) := by decide +kernel
theorem dX12_tags_80 : decode cX12_tags 80 = .ok (.iconst 2, 1) := by decide +kernel
theorem dX12_tags_81 : decode cX12_tags 81 = .ok (.ireturn, 1) := by decide +kernel
theorem dX12_tags_23 : decode cX12_tags 23 = .ok (.aload_n 0, 1) := by decide +kernel
theorem dX12_tags_24 : decode cX12_tags 24 = .ok (.iload_n 2, 1) := by decide +kernel
theorem dX12_tags_25 : decode cX12_tags 25 = .ok (.iconst 1, 1) := by decide +kernel
theorem dX12_tags_26 : decode cX12_tags 26 = .ok (.iadd, 1) := by decide +kernel
theorem dX12_tags_27 : decode cX12_tags 27 = .ok (.invokevirtual 29, 3) := by decide +kernel
theorem dX12_tags_30 : decode cX12_tags 30 = .ok (.bipush 97, 2) := by decide +kernel
theorem dX12_tags_32 : decode cX12_tags 32 = .ok (.if_icmp .lt 42, 3) := by decide +kernel
theorem dX12_tags_35 : decode cX12_tags 35 = .ok (.aload_n 0, 1) := by decide +kernel
theorem dX12_tags_36 : decode cX12_tags 36 = .ok (.iload_n 2, 1) := by decide +kernel
theorem dX12_tags_37 : decode cX12_tags 37 = .ok (.iconst 1, 1) := by decide +kernel
theorem dX12_tags_38 : decode cX12_tags 38 = .ok (.iadd, 1) := by decide +kernel
theorem dX12_tags_39 : decode cX12_tags 39 = .ok (.invokevirtual 29, 3) := by decide +kernel
theorem dX12_tags_42 : decode cX12_tags 42 = .ok (.bipush 112, 2) := by decide +kernel
theorem dX12_tags_44 : decode cX12_tags 44 = .ok (.if_icmp .gt 30, 3) := by decide +kernel
theorem dX12_tags_47 : decode cX12_tags 47 = .ok (.iload_n 2, 1) := by decide +kernel
theorem dX12_tags_48 : decode cX12_tags 48 = .ok (.iconst 2, 1) := by decide +kernel
theorem dX12_tags_49 : decode cX12_tags 49 = .ok (.iadd, 1) := by decide +kernel
theorem dX12_tags_50 : decode cX12_tags 50 = .ok (.aload_n 0, 1) := by decide +kernel
theorem dX12_tags_51 : decode cX12_tags 51 = .ok (.getfield 16, 3) := by decide +kernel
theorem dX12_tags_54 : decode cX12_tags 54 = .ok (.if_icmp .ge 16, 3) := by decide +kernel
theorem dX12_tags_70 : decode cX12_tags 70 = .ok (.iconst 1, 1) := by decide +kernel
theorem dX12_tags_71 : decode cX12_tags 71 = .ok (.goto 4, 3) := by decide +kernel
theorem dX12_tags_82 : decode cX12_tags 82 = .ok (.iload_n 1, 1) := by decide +kernel
theorem dX12_tags_83 : decode cX12_tags 83 = .ok (.iconst 1, 1) := by decide +kernel
theorem dX12_tags_84 : decode cX12_tags 84 = .ok (.aload_n 0, 1) := by decide +kernel
theorem dX12_tags_85 : decode cX12_tags 85 = .ok (.iload_n 2, 1) := by decide +kernel
theorem dX12_tags_86 : decode cX12_tags 86 = .ok (.iconst 1, 1) := by decide +kernel
theorem dX12_tags_87 : decode cX12_tags 87 = .ok (.iadd, 1) := by decide +kernel
theorem dX12_tags_88 : decode cX12_tags 88 = .ok (.invokevirtual 29, 3) := by decide +kernel
theorem dX12_tags_91 : decode cX12_tags 91 = .ok (.bipush 97, 2) := by decide +kernel
theorem dX12_tags_93 : decode cX12_tags 93 = .ok (.isub, 1) := by decide +kernel
theorem dX12_tags_94 : decode cX12_tags 94 = .ok (.ishl, 1) := by decide +kernel
theorem dX12_tags_95 : decode cX12_tags 95 = .ok (.ior, 1) := by decide +kernel
theorem dX12_tags_96 : decode cX12_tags 96 = .ok (.istore_n 1, 1) := by decide +kernel
theorem dX12_tags_97 : decode cX12_tags 97 = .ok (.aload_n 0, 1) := by decide +kernel
theorem dX12_tags_98 : decode cX12_tags 98 = .ok (.getfield 19, 3) := by decide +kernel
theorem dX12_tags_101 : decode cX12_tags 101 = .ok (.iload_n 2, 1) := by decide +kernel
theorem dX12_tags_102 : decode cX12_tags 102 = .ok (.iconst 2, 1) := by decide +kernel
theorem dX12_tags_103 : decode cX12_tags 103 = .ok (.iadd, 1) := by decide +kernel
theorem dX12_tags_104 : decode cX12_tags 104 = .ok (.aload_n 0, 1) := by decide +kernel
theorem dX12_tags_105 : decode cX12_tags 105 = .ok (.getfield 16, 3) := by decide +kernel
theorem dX12_tags_108 : decode cX12_tags 108 = .ok (.if_icmp .ge 9, 3) := by decide +kernel
theorem dX12_tags_117 : decode cX12_tags 117 = .ok (.aload_n 0, 1) := by decide +kernel
theorem dX12_tags_118 : decode cX12_tags 118 = .ok (.getfield 16, 3) := by decide +kernel
theorem dX12_tags_121 : decode cX12_tags 121 = .ok (.aload_n 0, 1) := by decide +kernel
theorem dX12_tags_122 : decode cX12_tags 122 = .ok (.getfield 16, 3) := by decide +kernel
theorem dX12_tags_125 : decode cX12_tags 125 = .ok (.invokestatic 22, 3) := by decide +kernel
theorem dX12_tags_128 : decode cX12_tags 128 = .ok (.istore_n 2, 1) := by decide +kernel
theorem dX12_tags_129 : decode cX12_tags 129 = .ok (.goto (-125), 3) := by decide +kernel
theorem dX12_tags_111 : decode cX12_tags 111 = .ok (.iload_n 2, 1) := by decide +kernel
theorem dX12_tags_112 : decode cX12_tags 112 = .ok (.iconst 2, 1) := by decide +kernel
theorem dX12_tags_113 : decode cX12_tags 113 = .ok (.iadd, 1) := by decide +kernel
theorem dX12_tags_114 : decode cX12_tags 114 = .ok (.goto 7, 3) := by decide +kernel
theorem dX12_tags_57 : decode cX12_tags 57 = .ok (.aload_n 0, 1) := by decide +kernel
theorem dX12_tags_58 : decode cX12_tags 58 = .ok (.getfield 19, 3) := by decide +kernel
theorem dX12_tags_61 : decode cX12_tags 61 = .ok (.iload_n 2, 1) := by decide +kernel
theorem dX12_tags_62 : decode cX12_tags 62 = .ok (.iconst 2, 1) := by decide +kernel
theorem dX12_tags_63 : decode cX12_tags 63 = .ok (.iadd, 1) := by decide +kernel
theorem dX12_tags_64 : decode cX12_tags 64 = .ok (.caload, 1) := by decide +kernel
theorem dX12_tags_65 : decode cX12_tags 65 = .ok (.bipush 32, 2) := by decide +kernel
theorem dX12_tags_67 : decode cX12_tags 67 = .ok (.if_icmp .ne 7, 3) := by decide +kernel
theorem dX12_firstRow_0 : decode cX12_firstRow 0 = .ok (.aload_n 0, 1) := by decide +kernel
theorem dX12_firstRow_1 : decode cX12_firstRow 1 = .ok (.getfield 67, 3) := by decide +kernel
theorem dX12_firstRow_4 : decode cX12_firstRow 4 = .ok (.aload_n 0, 1) := by decide +kernel
theorem dX12_firstRow_5 : decode cX12_firstRow 5 = .ok (.getfield 70, 3) := by decide +kernel
theorem dX12_firstRow_8 : decode cX12_firstRow 8 = .ok (.iload_n 1, 1) := by decide +kernel
theorem dX12_firstRow_9 : decode cX12_firstRow 9 = .ok (.iconst 0, 1) := by decide +kernel
theorem dX12_firstRow_10 : decode cX12_firstRow 10 = .ok (.invokestatic 73, 3) := by decide +kernel
theorem dX12_firstRow_13 : decode cX12_firstRow 13 = .ok (.ireturn, 1) := by decide +kernel
theorem dX12_cut_0 : decode cX12_cut 0 = .ok (.aload_n 0, 1) := by decide +kernel
theorem dX12_cut_1 : decode cX12_cut 1 = .ok (.getfield 19, 3) := by decide +kernel
theorem dX12_cut_4 : decode cX12_cut 4 = .ok (.iload_n 2, 1) := by decide +kernel
theorem dX12_cut_5 : decode cX12_cut 5 = .ok (.iload_n 3, 1) := by decide +kernel
theorem dX12_cut_6 : decode cX12_cut 6 = .ok (.invokestatic 22, 3) := by decide +kernel
theorem dX12_cut_9 : decode cX12_cut 9 = .ok (.istore 4, 2) := by decide +kernel
theorem dX12_cut_11 : decode cX12_cut 11 = .ok (.aload_n 0, 1) := by decide +kernel
theorem dX12_cut_12 : decode cX12_cut 12 = .ok (.getfield 19, 3) := by decide +kernel
theorem dX12_cut_15 : decode cX12_cut 15 = .ok (.iload 4, 2) := by decide +kernel
theorem dX12_cut_17 : decode cX12_cut 17 = .ok (.iload_n 3, 1) := by decide +kernel
theorem dX12_cut_18 : decode cX12_cut 18 = .ok (.invokestatic 26, 3) := by decide +kernel
theorem dX12_cut_21 : decode cX12_cut 21 = .ok (.iload 4, 2) := by decide +kernel
theorem dX12_cut_23 : decode cX12_cut 23 = .ok (.isub, 1) := by decide +kernel
theorem dX12_cut_24 : decode cX12_cut 24 = .ok (.istore 5, 2) := by decide +kernel
theorem dX12_cut_26 : decode cX12_cut 26 = .ok (.aload_n 0, 1) := by decide +kernel
theorem dX12_cut_27 : decode cX12_cut 27 = .ok (.getfield 93, 3) := by decide +kernel
theorem dX12_cut_30 : decode cX12_cut 30 = .ok (.iload_n 1, 1) := by decide +kernel
theorem dX12_cut_31 : decode cX12_cut 31 = .ok (.iload 5, 2) := by decide +kernel
theorem dX12_cut_33 : decode cX12_cut 33 = .ok (.bipush 60, 2) := by decide +kernel
theorem dX12_cut_35 : decode cX12_cut 35 = .ok (.if_icmp .ge 8, 3) := by decide +kernel
theorem dX12_cut_43 : decode cX12_cut 43 = .ok (.bipush 60, 2) := by decide +kernel
theorem dX12_cut_45 : decode cX12_cut 45 = .ok (.iastore, 1) := by decide +kernel
theorem dX12_cut_46 : decode cX12_cut 46 = .ok (.iconst 0, 1) := by decide +kernel
theorem dX12_cut_47 : decode cX12_cut 47 = .ok (.istore 6, 2) := by decide +kernel
theorem dX12_cut_49 : decode cX12_cut 49 = .ok (.iload 6, 2) := by decide +kernel
theorem dX12_cut_51 : decode cX12_cut 51 = .ok (.aload_n 0, 1) := by decide +kernel
theorem dX12_cut_52 : decode cX12_cut 52 = .ok (.getfield 93, 3) := by decide +kernel
theorem dX12_cut_55 : decode cX12_cut 55 = .ok (.iload_n 1, 1) := by decide +kernel
theorem dX12_cut_56 : decode cX12_cut 56 = .ok (.iaload, 1) := by decide +kernel
theorem dX12_cut_57 : decode cX12_cut 57 = .ok (.if_icmp .ge 31, 3) := by decide +kernel
theorem dX12_cut_88 : decode cX12_cut 88 = .ok (.return_, 1) := by decide +kernel
theorem dX12_cut_60 : decode cX12_cut 60 = .ok (.aload_n 0, 1) := by decide +kernel
theorem dX12_cut_61 : decode cX12_cut 61 = .ok (.getfield 96, 3) := by decide +kernel
theorem dX12_cut_64 : decode cX12_cut 64 = .ok (.bipush 60, 2) := by decide +kernel
theorem dX12_cut_66 : decode cX12_cut 66 = .ok (.iload_n 1, 1) := by decide +kernel
theorem dX12_cut_67 : decode cX12_cut 67 = .ok (.imul, 1) := by decide +kernel
theorem dX12_cut_68 : decode cX12_cut 68 = .ok (.iload 6, 2) := by decide +kernel
theorem dX12_cut_70 : decode cX12_cut 70 = .ok (.iadd, 1) := by decide +kernel
theorem dX12_cut_71 : decode cX12_cut 71 = .ok (.aload_n 0, 1) := by decide +kernel
theorem dX12_cut_72 : decode cX12_cut 72 = .ok (.getfield 19, 3) := by decide +kernel
theorem dX12_cut_75 : decode cX12_cut 75 = .ok (.iload 4, 2) := by decide +kernel
theorem dX12_cut_77 : decode cX12_cut 77 = .ok (.iload 6, 2) := by decide +kernel
theorem dX12_cut_79 : decode cX12_cut 79 = .ok (.iadd, 1) := by decide +kernel
theorem dX12_cut_80 : decode cX12_cut 80 = .ok (.caload, 1) := by decide +kernel
theorem dX12_cut_81 : decode cX12_cut 81 = .ok (.castore, 1) := by decide +kernel
theorem dX12_cut_82 : decode cX12_cut 82 = .ok (.iinc 6 1, 3) := by decide +kernel
theorem dX12_cut_85 : decode cX12_cut 85 = .ok (.goto (-36), 3) := by decide +kernel
theorem dX12_cut_38 : decode cX12_cut 38 = .ok (.iload 5, 2) := by decide +kernel
theorem dX12_cut_40 : decode cX12_cut 40 = .ok (.goto 5, 3) := by decide +kernel
theorem gX12_tags_X12_at : GoodIn wsX12_tags (wsV RX12 29 RX12 yX12_at wsX12_at) := goodIn_app (goodIn_sub (List.forall_mem_cons.mpr ⟨(List.mem_cons_of_mem _ (List.mem_append_left _ lm4)), List.forall_mem_cons.mpr ⟨(List.mem_cons_of_mem _ (List.mem_append_left _ lm5)), List.forall_mem_cons.mpr ⟨(List.mem_cons_of_mem _ (List.mem_append_left _ lm6)), List.forall_mem_cons.mpr ⟨(List.mem_cons_of_mem _ (List.mem_append_left _ lm7)), (fun _ h => absurd h List.not_mem_nil)⟩⟩⟩⟩) (by decide +kernel)) (goodIn_sub (by unfold wsX12_at; exact List.forall_mem_cons.mpr ⟨(List.mem_cons_of_mem _ (List.mem_append_left _ lm8)), List.forall_mem_append.mpr ⟨List.forall_mem_cons.mpr ⟨(List.mem_cons_of_mem _ (List.mem_append_left _ lm0)), List.forall_mem_cons.mpr ⟨(List.mem_cons_of_mem _ (List.mem_append_left _ lm1)), (fun _ h => absurd h List.not_mem_nil)⟩⟩, (fun _ h => (List.mem_cons_of_mem _ (List.mem_append_right _ h)))⟩⟩) gw_X12_at)
theorem gX12_tags_X12_begin : GoodIn wsX12_tags (va_wsS RX12 22 yX12_begin wsX12_begin) := goodIn_app (goodIn_sub (List.forall_mem_cons.mpr ⟨(List.mem_cons_of_mem _ (List.mem_append_left _ lm9)), List.forall_mem_cons.mpr ⟨(List.mem_cons_of_mem _ (List.mem_append_left _ lm10)), List.forall_mem_cons.mpr ⟨(List.mem_cons_of_mem _ (List.mem_append_left _ lm7)), (fun _ h => absurd h List.not_mem_nil)⟩⟩⟩) (by decide +kernel)) (goodIn_sub (by unfold wsX12_begin; exact List.forall_mem_cons.mpr ⟨(List.mem_cons_of_mem _ (List.mem_append_left _ lm11)), (fun _ h => absurd h List.not_mem_nil)⟩) gw_X12_begin)
theorem gw_X12_find : wsX12_find.all goodWord = true := by decide +kernel
theorem gX12_firstRow_X12_find : GoodIn wsX12_firstRow (va_wsS RX12 73 yX12_find wsX12_find) := goodIn_app (goodIn_sub (List.forall_mem_cons.mpr ⟨(List.mem_cons_of_mem _ (List.mem_append_left _ lm2)), List.forall_mem_cons.mpr ⟨(List.mem_cons_of_mem _ (List.mem_append_left _ lm3)), List.forall_mem_cons.mpr ⟨(List.mem_cons_of_mem _ (List.mem_append_left _ lm4)), (fun _ h => absurd h List.not_mem_nil)⟩⟩⟩) (by decide +kernel)) (goodIn_sub (by unfold wsX12_find; exact List.forall_mem_cons.mpr ⟨(List.mem_cons_of_mem _ (List.mem_append_left _ lm5)), (fun _ h => absurd h List.not_mem_nil)⟩) gw_X12_find)
theorem gX12_cut_X12_begin : GoodIn wsX12_cut (va_wsS RX12 22 yX12_begin wsX12_begin) := goodIn_app (goodIn_sub (List.forall_mem_cons.mpr ⟨(List.mem_cons_of_mem _ (List.mem_append_left _ lm3)), List.forall_mem_cons.mpr ⟨(List.mem_cons_of_mem _ (List.mem_append_left _ lm4)), List.forall_mem_cons.mpr ⟨(List.mem_cons_of_mem _ (List.mem_append_left _ lm5)), (fun _ h => absurd h List.not_mem_nil)⟩⟩⟩) (by decide +kernel)) (goodIn_sub (by unfold wsX12_begin; exact List.forall_mem_cons.mpr ⟨(List.mem_cons_of_mem _ (List.mem_append_left _ lm6)), (fun _ h => absurd h List.not_mem_nil)⟩) gw_X12_begin)
theorem gX12_cut_X12_end : GoodIn wsX12_cut (va_wsS RX12 26 yX12_end wsX12_end) := goodIn_app (goodIn_sub (List.forall_mem_cons.mpr ⟨(List.mem_cons_of_mem _ (List.mem_append_left _ lm7)), List.forall_mem_cons.mpr ⟨(List.mem_cons_of_mem _ (List.mem_append_left _ lm8)), List.forall_mem_cons.mpr ⟨(List.mem_cons_of_mem _ (List.mem_append_left _ lm5)), (fun _ h => absurd h List.not_mem_nil)⟩⟩⟩) (by decide +kernel)) (goodIn_sub (by unfold wsX12_end; exact List.forall_mem_cons.mpr ⟨(List.mem_cons_of_mem _ (List.mem_append_left _ lm9)), (fun _ h => absurd h List.not_mem_nil)⟩) gw_X12_end)
set_option maxHeartbeats 2000000 in
set_option maxRecDepth 100000 in
theorem m_tags (l : Launch) (D : va_G) (g : Nat → Nat) (ka : Nat → ClassId) (ad : Nat → Nat) (i : Nat → Nat → Int32) (r : Nat → Nat → Nat) (L : Nat → Nat → Int64) (d : Nat → Nat → UInt64)  (hO : OkI i) (hR : RS r) (sz : Nat) (hw1 : 1 ≤ (i 36 4).toInt) (h64 : (i 380 0).toInt = 64) : Met l yX12_tags wsX12_tags ({ frames := 1, cells := 0, slots := 0, locals := 23 }) (va_Pc [.ref (g 36)] (sj_B D (hwc g ka i r L d) (hT ka) sz (gx ad (va_A (hwc g ka i r L d) sz)))) (sj_Qi (S := (Nat → Nat → Int32)) D (fun v u => OkI u ∧ (∀ a b, ¬ ((a = 36 ∧ (b = 9 ∨ b = 10))) → u a b = i a b) ∧ ((0 : Int) ≤ v.toInt ∧ v.toInt ≤ 2) ∧ ((v.toInt = 2 ∧ tagW (lnL (i 380) 0 (i 36 4).toInt) 0 = 0 ∧ u = i) ∨ (v.toInt = 0 ∧ 1 ≤ (tagW (lnL (i 380) 0 (i 36 4).toInt) 0).toInt ∧ tgM i u (tagW (lnL (i 380) 0 (i 36 4).toInt) 0)))) (fun u => hwc g ka u r L d) (fun _ => []) (va_A (hwc g ka i r L d) sz)) 0 0 (va_A (hwc g ka i r L d) sz) := by
  refine x_met (Ex := gx ad) (cc := cX12_tags) (maxL := 4) (ret := (some .int)) (by decide) rfl (Nat.le_of_ble_eq_true rfl) ?_
  intro p e s m below meth c A ls hx hb hr hml hts hown hlocks hA hS hH hK hE hl
  have hown : s.vm.findClass RX12 = some m.cls := hown
  have in12 : ∀ w ∈ wsX120, w ∈ wsX12_tags := (fun _ h => (List.mem_cons_of_mem _ (List.mem_append_right _ h)))
  have wd0 := hts (.fieldLink RX12 16 "StoryDeskModel" "width" "I") (List.mem_cons_of_mem _ (List.mem_append_left _ lm0))
  have wd1 := hts (.fieldLink RX12 64 "StoryDeskModel" "pending" "I") (List.mem_cons_of_mem _ (List.mem_append_left _ lm2))
  have wd2 := hts (.fieldLink RX12 46 "StoryDeskModel" "tagged" "Z") (List.mem_cons_of_mem _ (List.mem_append_left _ lm3))
  have wd3 := hts (.fieldLink RX12 19 "StoryDeskModel" "line" "[C") (List.mem_cons_of_mem _ (List.mem_append_left _ lm1))
  have hl : lv_has ls 4 [(0, .ref (g 36))] := hl
  have hK : va_K D vwCl (hT ka) s := hK
  have hw4 : (0 : Int) ≤ (i 36 4).toInt ∧ (i 36 4).toInt ≤ 480 := hO 36 4
  have hd7 : (0 : Int) ≤ (i 36 7).toInt ∧ (i 36 7).toInt ≤ 1 := hO 36 7
  refine lv_iconst (v := 0) hx hb dX12_tags_0 (by decide) ?_
  refine lv_istore_n (lv' := [(1, .int 0), (0, .ref (g 36))]) hx hb dX12_tags_1 rfl hl (by decide) rfl (fun ls hl => ?_)
  refine lv_iconst (v := 0) hx hb dX12_tags_2 (by decide) ?_
  refine lv_istore_n (lv' := [(2, .int 0), (1, .int 0), (0, .ref (g 36))]) hx hb dX12_tags_3 rfl hl (by decide) rfl (fun ls hl => ?_)
  -- loop at 4
  have lp_1 : ∀ (fuel_lp_1 : Nat) (t : Int32) (f : Int32) (H : Heap) (locs : List Loc) (ls : Array Slot), (480 - f.toInt).toNat < fuel_lp_1 → (0 : Int) ≤ t.toInt ∧ t.toInt ≤ 65535 → (0 : Int) ≤ f.toInt ∧ f.toInt ≤ 480 → f.toInt ≤ (i 36 4).toInt ∧ ((f.toInt = 0 ∧ t.toInt = 0) ∨ (1 ≤ f.toInt ∧ 1 ≤ t.toInt)) → tagW (lnL (i 380) 0 (i 36 4).toInt) 0 = tagW (lnL (i 380) f.toInt (i 36 4).toInt) t → (f.toInt < (i 36 4).toInt → (i 380 f.toInt.toNat).toInt ≠ 32) → lv_has ls 4 [(2, .int f), (1, .int t), (0, .ref (g 36))] → sj_H D A (hwc g ka i r L d) H → va_S A s.heap H locs → W p l e (headSpec wsX12_tags ({ frames := 1, cells := 0, slots := 0, locals := 23 })).room s m ([.ref (g 36)] : List Value).toArray below meth c H locs 0 0 (MQ below (sj_Qi (S := (Nat → Nat → Int32)) D (fun v u => OkI u ∧ (∀ a b, ¬ ((a = 36 ∧ (b = 9 ∨ b = 10))) → u a b = i a b) ∧ ((0 : Int) ≤ v.toInt ∧ v.toInt ≤ 2) ∧ ((v.toInt = 2 ∧ tagW (lnL (i 380) 0 (i 36 4).toInt) 0 = 0 ∧ u = i) ∨ (v.toInt = 0 ∧ 1 ≤ (tagW (lnL (i 380) 0 (i 36 4).toInt) 0).toInt ∧ tgM i u (tagW (lnL (i 380) 0 (i 36 4).toInt) 0)))) (fun u => hwc g ka u r L d) (fun _ => []) A) ([.ref (g 36)] : List Value).toArray s 0 0 A) (F0 m 4 ls []) := by
    intro fuel_lp_1
    induction fuel_lp_1 with
    | zero => intros; omega
    | succ fuel_lp_1 ih_lp_1 =>
      intro t f H locs ls hm hr_t hr_f hi_lp_1_0 hi_lp_1_1 hi_lp_1_2 hl hH hS
      refine lv_iload_n hx hb dX12_tags_4 rfl (lv_at hl 0 rfl) ?_
      refine lv_aload_n hx hb dX12_tags_5 rfl (lv_at hl 2 rfl) ?_
      have bx_2 : (0 : Int) ≤ (i 36 4).toInt ∧ (i 36 4).toInt ≤ 480 := hO 36 4
      refine h_geti (ci := 12) (C := RX12) (F := TX12) (N := 86) hx hb hts in12 hown hK hH (by decide) (rfl : kd 36 = 12) (by decide) rfl 4 (by decide) wd0 (fun _ h9 => h9) (by decide) rfl dX12_tags_6 ?_
      refine lv_icmp_ge (tgt := 132) hx hb dX12_tags_9 (by decide) (fun c_3 => ?_) (fun c_3 => ?_)
      · skip
        have h_4 := s_le (rfl : (i 36 4).toInt = _) (rfl : f.toInt = _) c_3
        refine lv_aload_n hx hb dX12_tags_132 rfl (lv_at hl 2 rfl) ?_
        refine lv_dup hx hb dX12_tags_133 rfl ?_
        have bx_5 : (0 : Int) ≤ (i 36 9).toInt ∧ (i 36 9).toInt ≤ 65535 := hO 36 9
        refine h_geti (ci := 12) (C := RX12) (F := TX12) (N := 86) hx hb hts in12 hown hK hH (by decide) (rfl : kd 36 = 12) (by decide) rfl 9 (by decide) wd1 (fun _ h9 => h9) (by decide) rfl dX12_tags_134 ?_
        refine lv_iload_n hx hb dX12_tags_137 rfl (lv_at hl 1 rfl) ?_
        refine lv_ior hx hb dX12_tags_138 ?_
        refine lv_topi (fun z_6 ez_6 => ?_)
        have hz_6 := s_or ez_6 ⟨by omega, by omega⟩ ⟨by omega, by omega⟩
        have hO_7 := okp hO (n := 36) (k := 9) (v := z_6) (show (0 : Int) ≤ (z_6 : Int32).toInt ∧ (z_6 : Int32).toInt ≤ 65535 from ⟨by omega, by omega⟩)
        refine h_puti (ty := .int) (ci := 12) (C := RX12) (F := TX12) (N := 86) hx hb hts in12 tyX12 tyX12_ok nmX12 hown hK hH hS (by decide) (rfl : kd 36 = 12) (by decide) rfl 9 (by decide) wd1 (fun _ h9 => h9) rfl (by decide +kernel) rfl rfl (by decide) rfl dX12_tags_139 (fun H locs hH hS => ?_)
        refine lv_aload_n hx hb dX12_tags_142 rfl (lv_at hl 2 rfl) ?_
        refine lv_iconst (v := 1) hx hb dX12_tags_143 (by decide) ?_
        have hO_8 := okp hO_7 (n := 36) (k := 10) (v := 1) (show (0 : Int) ≤ (1 : Int32).toInt ∧ (1 : Int32).toInt ≤ 1 from ⟨by decide, by decide⟩)
        refine h_puti (ty := .boolean) (ci := 12) (C := RX12) (F := TX12) (N := 86) hx hb hts in12 tyX12 tyX12_ok nmX12 hown hK hH hS (by decide) (rfl : kd 36 = 12) (by decide) rfl 10 (by decide) wd2 (fun _ h9 => h9) rfl (by decide +kernel) (by decide +kernel) (by decide +kernel) (by decide) rfl dX12_tags_144 (fun H locs hH hS => ?_)
        refine lv_iconst (v := 0) hx hb dX12_tags_147 (by decide) ?_
        have hT : tagW (lnL (i 380) 0 (i 36 4).toInt) 0 = t := by rw [hi_lp_1_1, tagW_end (by omega)]
        have hp_9 : ((up2 (up2 i 36 9 z_6) 36 10 1) 36 10).toInt = (1 : Int32).toInt := congrArg Int32.toInt ((up2_at _ _ _ _))
        have hl_10 : (1 : Int32).toInt = 1 := rfl
        have hV_11 : ((0 : Int32).toInt = 2 ∧ tagW (lnL (i 380) 0 (i 36 4).toInt) 0 = 0 ∧ (up2 (up2 i 36 9 z_6) 36 10 1) = i) ∨ ((0 : Int32).toInt = 0 ∧ 1 ≤ (tagW (lnL (i 380) 0 (i 36 4).toInt) 0).toInt ∧ tgM i (up2 (up2 i 36 9 z_6) 36 10 1) (tagW (lnL (i 380) 0 (i 36 4).toInt) 0)) := (Or.inr ⟨by rfl, by rw [hT]; omega, (((up2_k _ _ (by decide)).trans (up2_at _ _ _ _)).trans (by rw [hT, ez_6])), by omega, (fun b hb => by
              have hb9 : b ≠ 9 ∧ b ≠ 10 := ⟨fun e9 => hb (by rw [e9]; decide), fun e9 => hb (by rw [e9]; decide)⟩
              exact ((up2_o _ _ (by omega)).trans (up2_o _ _ (by omega)))), (fun a h1 h2 => funext fun b => ((up2_o _ _ (by omega)).trans (up2_o _ _ (by omega))))⟩)
        exact sj_zret hx hb hr hlocks rfl hS (up2 (up2 i 36 9 z_6) 36 10 1) ⟨hO_8, (fun a b ha => ((up2_o _ _ (by omega)).trans (up2_o _ _ (by omega)))), ⟨by decide, by decide⟩, hV_11⟩ hH (sj_Knil hK) (Nat.le_of_ble_eq_true rfl) (Nat.le_of_ble_eq_true rfl) dX12_tags_148
      · skip
        have h_12 := s_nle (rfl : (i 36 4).toInt = _) (rfl : f.toInt = _) c_3
        have hne := hi_lp_1_2 (by omega)
        refine lv_aload_n hx hb dX12_tags_12 rfl (lv_at hl 2 rfl) ?_
        refine h_getr (ci := 12) (C := RX12) (F := TX12) (N := 86) hx hb hts in12 hown hK hH (by decide) (rfl : kd 36 = 12) (by decide) rfl 3 (by decide) wd3 (fun _ h9 => h9) (by decide) rfl (t := 380) (hR 36 3 rfl) (by decide) dX12_tags_13 ?_
        refine lv_iload_n hx hb dX12_tags_16 rfl (lv_at hl 0 rfl) ?_
        have bx_13 : (0 : Int) ≤ (i 380 (f.toInt).toNat).toInt ∧ (i 380 (f.toInt).toNat).toInt ≤ 65535 := hO 380 (f.toInt).toNat
        refine h_cald hx hb hK hH (by decide) (rfl : kd 380 = 14) (s_vin (N := 480) (rfl : f.toInt = _) (rfl : ln 380 = 480) (by omega) (by omega)) dX12_tags_17 ?_
        have ek_14 : f.toNatClampNeg = (f.toInt).toNat := (s_cl (show f.toInt = f.toInt by omega))
        refine sj_i (y := (i 380 (f.toInt).toNat)) (by rw [ek_14]) ?_
        refine lv_bipush (v := 64) hx hb dX12_tags_18 (by decide) ?_
        refine lv_icmp_ne (tgt := 74) hx hb dX12_tags_20 (by decide) (fun c_15 => ?_) (fun c_15 => ?_)
        · skip
          have h_16 := s_ne (rfl : (i 380 (f.toInt).toNat).toInt = _) (show (64 : Int32).toInt = 64 from rfl) c_15
          refine lv_iconst (v := 0) hx hb dX12_tags_74 (by decide) ?_
          refine lv_istore_n (lv' := [(3, .int 0), (2, .int f), (1, .int t), (0, .ref (g 36))]) hx hb dX12_tags_75 rfl hl (by decide) rfl (fun ls hl => ?_)
          refine lv_iload_n hx hb dX12_tags_76 rfl (lv_at hl 0 rfl) ?_
          refine lv_if_ne (tgt := 82) hx hb dX12_tags_77 (by decide) (fun h => absurd (by decide) h) (fun _ => ?_)
          refine lv_iconst (v := 2) hx hb dX12_tags_80 (by decide) ?_
          have hV_17 : ((2 : Int32).toInt = 2 ∧ tagW (lnL (i 380) 0 (i 36 4).toInt) 0 = 0 ∧ i = i) ∨ ((2 : Int32).toInt = 0 ∧ 1 ≤ (tagW (lnL (i 380) 0 (i 36 4).toInt) 0).toInt ∧ tgM i i (tagW (lnL (i 380) 0 (i 36 4).toInt) 0)) := (Or.inl ⟨by rfl, by rw [hi_lp_1_1, tagW_no (by omega) (by omega) (by omega) (by omega)], rfl⟩)
          exact sj_zret hx hb hr hlocks rfl hS i ⟨hO, (fun a b ha => rfl), ⟨by decide, by decide⟩, hV_17⟩ hH (sj_Knil hK) (Nat.le_of_ble_eq_true rfl) (Nat.le_of_ble_eq_true rfl) dX12_tags_81
        · skip
          have h_18 := s_eq (rfl : (i 380 (f.toInt).toNat).toInt = _) (show (64 : Int32).toInt = 64 from rfl) c_15
          refine lv_aload_n hx hb dX12_tags_23 rfl (lv_at hl 2 rfl) ?_
          refine lv_iload_n hx hb dX12_tags_24 rfl (lv_at hl 0 rfl) ?_
          refine lv_iconst (v := 1) hx hb dX12_tags_25 (by decide) ?_
          refine lv_iadd hx hb dX12_tags_26 ?_
          obtain ⟨z_19, ez_19, hz_19⟩ := s_add (rfl : f.toInt = _) (show (1 : Int32).toInt = 1 from rfl) (by omega) (by omega)
          refine sj_i ez_19 ?_
          refine x_calli (va_runV (As := [.int z_19]) (rest := []) ⟨hx, hb, hml, hown, hts⟩ (m_at l D g ka ad i r L d z_19 hO hR H.size (by first | omega | decide)) (cwV 1 hts gX12_tags_X12_at rfl rfl rfl (by decide +kernel) ⟨(Nat.le_of_ble_eq_true rfl), (Nat.le_of_ble_eq_true rfl)⟩) (x_preV (q := (RX12, TX12, 86)) hH hK (q_obj (by decide) (rfl : kd 36 = 12) (by decide)) rfl gxb (gxw hE hS (x_F hH hS hA))) rfl rfl hl.1 rfl (lv_room (Nat.le_of_ble_eq_true rfl)) dX12_tags_27 ⟨(Nat.le_of_ble_eq_true rfl), (Nat.le_of_ble_eq_true rfl)⟩) hH hS hA rfl rfl (fun r_20 _ H locs hw_21 hH hS => ?_)
          obtain ⟨hr_23, he_24⟩ := hw_21
          have hr_23 : (0 : Int) ≤ r_20.toInt ∧ r_20.toInt ≤ 65535 := hr_23
          rw [show z_19.toInt.toNat = (f.toInt + 1).toNat by omega] at he_24
          refine lv_bipush (v := 97) hx hb dX12_tags_30 (by decide) ?_
          refine lv_icmp_lt (tgt := 74) hx hb dX12_tags_32 (by decide) (fun c_25 => ?_) (fun c_25 => ?_)
          · skip
            have h_26 := s_lt (rfl : r_20.toInt = _) (show (97 : Int32).toInt = 97 from rfl) c_25
            refine lv_iconst (v := 0) hx hb dX12_tags_74 (by decide) ?_
            refine lv_istore_n (lv' := [(3, .int 0), (2, .int f), (1, .int t), (0, .ref (g 36))]) hx hb dX12_tags_75 rfl hl (by decide) rfl (fun ls hl => ?_)
            refine lv_iload_n hx hb dX12_tags_76 rfl (lv_at hl 0 rfl) ?_
            refine lv_if_ne (tgt := 82) hx hb dX12_tags_77 (by decide) (fun h => absurd (by decide) h) (fun _ => ?_)
            refine lv_iconst (v := 2) hx hb dX12_tags_80 (by decide) ?_
            have hV_27 : ((2 : Int32).toInt = 2 ∧ tagW (lnL (i 380) 0 (i 36 4).toInt) 0 = 0 ∧ i = i) ∨ ((2 : Int32).toInt = 0 ∧ 1 ≤ (tagW (lnL (i 380) 0 (i 36 4).toInt) 0).toInt ∧ tgM i i (tagW (lnL (i 380) 0 (i 36 4).toInt) 0)) := (Or.inl ⟨by rfl, by rw [hi_lp_1_1, tagW_no (by omega) (by omega) (by omega) (by omega)], rfl⟩)
            exact sj_zret hx hb hr hlocks rfl hS i ⟨hO, (fun a b ha => rfl), ⟨by decide, by decide⟩, hV_27⟩ hH (sj_Knil hK) (Nat.le_of_ble_eq_true rfl) (Nat.le_of_ble_eq_true rfl) dX12_tags_81
          · skip
            have h_28 := s_nlt (rfl : r_20.toInt = _) (show (97 : Int32).toInt = 97 from rfl) c_25
            refine lv_aload_n hx hb dX12_tags_35 rfl (lv_at hl 2 rfl) ?_
            refine lv_iload_n hx hb dX12_tags_36 rfl (lv_at hl 0 rfl) ?_
            refine lv_iconst (v := 1) hx hb dX12_tags_37 (by decide) ?_
            refine lv_iadd hx hb dX12_tags_38 ?_
            obtain ⟨z_29, ez_29, hz_29⟩ := s_add (rfl : f.toInt = _) (show (1 : Int32).toInt = 1 from rfl) (by omega) (by omega)
            refine sj_i ez_29 ?_
            refine x_calli (va_runV (As := [.int z_29]) (rest := []) ⟨hx, hb, hml, hown, hts⟩ (m_at l D g ka ad i r L d z_29 hO hR H.size (by first | omega | decide)) (cwV 1 hts gX12_tags_X12_at rfl rfl rfl (by decide +kernel) ⟨(Nat.le_of_ble_eq_true rfl), (Nat.le_of_ble_eq_true rfl)⟩) (x_preV (q := (RX12, TX12, 86)) hH hK (q_obj (by decide) (rfl : kd 36 = 12) (by decide)) rfl gxb (gxw hE hS (x_F hH hS hA))) rfl rfl hl.1 rfl (lv_room (Nat.le_of_ble_eq_true rfl)) dX12_tags_39 ⟨(Nat.le_of_ble_eq_true rfl), (Nat.le_of_ble_eq_true rfl)⟩) hH hS hA rfl rfl (fun r_30 _ H locs hw_31 hH hS => ?_)
            obtain ⟨hr_33, he_34⟩ := hw_31
            have hr_33 : (0 : Int) ≤ r_30.toInt ∧ r_30.toInt ≤ 65535 := hr_33
            rw [show z_29.toInt.toNat = (f.toInt + 1).toNat by omega] at he_34
            refine lv_bipush (v := 112) hx hb dX12_tags_42 (by decide) ?_
            refine lv_icmp_gt (tgt := 74) hx hb dX12_tags_44 (by decide) (fun c_35 => ?_) (fun c_35 => ?_)
            · skip
              have h_36 := s_lt (show (112 : Int32).toInt = 112 from rfl) (rfl : r_30.toInt = _) c_35
              refine lv_iconst (v := 0) hx hb dX12_tags_74 (by decide) ?_
              refine lv_istore_n (lv' := [(3, .int 0), (2, .int f), (1, .int t), (0, .ref (g 36))]) hx hb dX12_tags_75 rfl hl (by decide) rfl (fun ls hl => ?_)
              refine lv_iload_n hx hb dX12_tags_76 rfl (lv_at hl 0 rfl) ?_
              refine lv_if_ne (tgt := 82) hx hb dX12_tags_77 (by decide) (fun h => absurd (by decide) h) (fun _ => ?_)
              refine lv_iconst (v := 2) hx hb dX12_tags_80 (by decide) ?_
              have hV_37 : ((2 : Int32).toInt = 2 ∧ tagW (lnL (i 380) 0 (i 36 4).toInt) 0 = 0 ∧ i = i) ∨ ((2 : Int32).toInt = 0 ∧ 1 ≤ (tagW (lnL (i 380) 0 (i 36 4).toInt) 0).toInt ∧ tgM i i (tagW (lnL (i 380) 0 (i 36 4).toInt) 0)) := (Or.inl ⟨by rfl, by rw [hi_lp_1_1, tagW_no (by omega) (by omega) (by omega) (by omega)], rfl⟩)
              exact sj_zret hx hb hr hlocks rfl hS i ⟨hO, (fun a b ha => rfl), ⟨by decide, by decide⟩, hV_37⟩ hH (sj_Knil hK) (Nat.le_of_ble_eq_true rfl) (Nat.le_of_ble_eq_true rfl) dX12_tags_81
            · skip
              have h_38 := s_nlt (show (112 : Int32).toInt = 112 from rfl) (rfl : r_30.toInt = _) c_35
              refine lv_iload_n hx hb dX12_tags_47 rfl (lv_at hl 0 rfl) ?_
              refine lv_iconst (v := 2) hx hb dX12_tags_48 (by decide) ?_
              refine lv_iadd hx hb dX12_tags_49 ?_
              obtain ⟨z_39, ez_39, hz_39⟩ := s_add (rfl : f.toInt = _) (show (2 : Int32).toInt = 2 from rfl) (by omega) (by omega)
              refine sj_i ez_39 ?_
              refine lv_aload_n hx hb dX12_tags_50 rfl (lv_at hl 2 rfl) ?_
              refine h_geti (ci := 12) (C := RX12) (F := TX12) (N := 86) hx hb hts in12 hown hK hH (by decide) (rfl : kd 36 = 12) (by decide) rfl 4 (by decide) wd0 (fun _ h9 => h9) (by decide) rfl dX12_tags_51 ?_
              refine lv_icmp_ge (tgt := 70) hx hb dX12_tags_54 (by decide) (fun c_40 => ?_) (fun c_40 => ?_)
              · skip
                have h_41 := s_le (rfl : (i 36 4).toInt = _) (rfl : z_39.toInt = _) c_40
                refine lv_iconst (v := 1) hx hb dX12_tags_70 (by decide) ?_
                refine lv_goto (tgt := 75) hx hb dX12_tags_71 (by decide) ?_
                refine lv_istore_n (lv' := [(3, .int 1), (2, .int f), (1, .int t), (0, .ref (g 36))]) hx hb dX12_tags_75 rfl hl (by decide) rfl (fun ls hl => ?_)
                refine lv_iload_n hx hb dX12_tags_76 rfl (lv_at hl 0 rfl) ?_
                refine lv_if_ne (tgt := 82) hx hb dX12_tags_77 (by decide) (fun _ => ?_) (fun h => absurd h (by decide))
                refine lv_iload_n hx hb dX12_tags_82 rfl (lv_at hl 2 rfl) ?_
                refine lv_iconst (v := 1) hx hb dX12_tags_83 (by decide) ?_
                refine lv_aload_n hx hb dX12_tags_84 rfl (lv_at hl 3 rfl) ?_
                refine lv_iload_n hx hb dX12_tags_85 rfl (lv_at hl 1 rfl) ?_
                refine lv_iconst (v := 1) hx hb dX12_tags_86 (by decide) ?_
                refine lv_iadd hx hb dX12_tags_87 ?_
                obtain ⟨z_42, ez_42, hz_42⟩ := s_add (rfl : f.toInt = _) (show (1 : Int32).toInt = 1 from rfl) (by omega) (by omega)
                refine sj_i ez_42 ?_
                refine x_calli (va_runV (As := [.int z_42]) (rest := [.int 1, .int t]) ⟨hx, hb, hml, hown, hts⟩ (m_at l D g ka ad i r L d z_42 hO hR H.size (by first | omega | decide)) (cwV 1 hts gX12_tags_X12_at rfl rfl rfl (by decide +kernel) ⟨(Nat.le_of_ble_eq_true rfl), (Nat.le_of_ble_eq_true rfl)⟩) (x_preV (q := (RX12, TX12, 86)) hH hK (q_obj (by decide) (rfl : kd 36 = 12) (by decide)) rfl gxb (gxw hE hS (x_F hH hS hA))) rfl rfl hl.1 rfl (lv_room (Nat.le_of_ble_eq_true rfl)) dX12_tags_88 ⟨(Nat.le_of_ble_eq_true rfl), (Nat.le_of_ble_eq_true rfl)⟩) hH hS hA rfl rfl (fun r_43 _ H locs hw_44 hH hS => ?_)
                obtain ⟨hr_46, he_47⟩ := hw_44
                have hr_46 : (0 : Int) ≤ r_43.toInt ∧ r_43.toInt ≤ 65535 := hr_46
                rw [show z_42.toInt.toNat = (f.toInt + 1).toNat by omega] at he_47
                refine lv_bipush (v := 97) hx hb dX12_tags_91 (by decide) ?_
                refine lv_isub hx hb dX12_tags_93 ?_
                obtain ⟨z_48, ez_48, hz_48⟩ := s_sub (rfl : r_43.toInt = _) (show (97 : Int32).toInt = 97 from rfl) (by omega) (by omega)
                refine sj_i ez_48 ?_
                refine lv_ishl hx hb dX12_tags_94 ?_
                refine lv_topi (fun z_49 ez_49 => ?_)
                refine lv_ior hx hb dX12_tags_95 ?_
                refine lv_topi (fun z_50 ez_50 => ?_)
                have hbo : z_50 = bitO t (i 380 (f.toInt + 1).toNat).toInt := by
                  unfold bitO; rw [ez_50, ez_49, show z_48 = nI ((i 380 (f.toInt + 1).toNat).toInt - 97).toNat from s_ofN (show z_48.toInt = (i 380 (f.toInt + 1).toNat).toInt - 97 by omega) (by omega) (by omega)]
                have hz_50 := bitO_r (s := t) (c := (i 380 (f.toInt + 1).toNat).toInt) ⟨by omega, by omega⟩ (by omega) (by omega)
                rw [← hbo] at hz_50
                refine lv_istore_n (lv' := [(1, .int z_50), (3, .int 1), (2, .int f), (0, .ref (g 36))]) hx hb dX12_tags_96 rfl hl (by decide) rfl (fun ls hl => ?_)
                refine lv_aload_n hx hb dX12_tags_97 rfl (lv_at hl 3 rfl) ?_
                refine h_getr (ci := 12) (C := RX12) (F := TX12) (N := 86) hx hb hts in12 hown hK hH (by decide) (rfl : kd 36 = 12) (by decide) rfl 3 (by decide) wd3 (fun _ h9 => h9) (by decide) rfl (t := 380) (hR 36 3 rfl) (by decide) dX12_tags_98 ?_
                refine lv_iload_n hx hb dX12_tags_101 rfl (lv_at hl 2 rfl) ?_
                refine lv_iconst (v := 2) hx hb dX12_tags_102 (by decide) ?_
                refine lv_iadd hx hb dX12_tags_103 ?_
                obtain ⟨z_51, ez_51, hz_51⟩ := s_add (rfl : f.toInt = _) (show (2 : Int32).toInt = 2 from rfl) (by omega) (by omega)
                refine sj_i ez_51 ?_
                refine lv_aload_n hx hb dX12_tags_104 rfl (lv_at hl 3 rfl) ?_
                refine h_geti (ci := 12) (C := RX12) (F := TX12) (N := 86) hx hb hts in12 hown hK hH (by decide) (rfl : kd 36 = 12) (by decide) rfl 4 (by decide) wd0 (fun _ h9 => h9) (by decide) rfl dX12_tags_105 ?_
                refine lv_icmp_ge (tgt := 117) hx hb dX12_tags_108 (by decide) (fun c_52 => ?_) (fun c_52 => ?_)
                · skip
                  have h_53 := s_le (rfl : (i 36 4).toInt = _) (rfl : z_51.toInt = _) c_52
                  refine lv_aload_n hx hb dX12_tags_117 rfl (lv_at hl 3 rfl) ?_
                  refine h_geti (ci := 12) (C := RX12) (F := TX12) (N := 86) hx hb hts in12 hown hK hH (by decide) (rfl : kd 36 = 12) (by decide) rfl 4 (by decide) wd0 (fun _ h9 => h9) (by decide) rfl dX12_tags_118 ?_
                  refine lv_aload_n hx hb dX12_tags_121 rfl (lv_at hl 3 rfl) ?_
                  refine h_geti (ci := 12) (C := RX12) (F := TX12) (N := 86) hx hb hts in12 hown hK hH (by decide) (rfl : kd 36 = 12) (by decide) rfl 4 (by decide) wd0 (fun _ h9 => h9) (by decide) rfl dX12_tags_122 ?_
                  refine x_calli (va_runS (As := [.ref (g 380), .int (i 36 4), .int (i 36 4)]) (rest := []) ⟨hx, hb, hml, hown, hts⟩ (m_begin_line l D g ka ad i r L d (i 36 4) (i 36 4) hO hR H.size (by first | omega | decide) (by first | omega | decide) (by first | omega | decide)) (cwS 3 hts gX12_tags_X12_begin rfl rfl rfl (by decide +kernel) ⟨(Nat.le_of_ble_eq_true rfl), (Nat.le_of_ble_eq_true rfl)⟩) (x_preS hH hK gxb (gxw hE hS (x_F hH hS hA))) rfl rfl hl.1 rfl (lv_room (Nat.le_of_ble_eq_true rfl)) dX12_tags_125 ⟨(Nat.le_of_ble_eq_true rfl), (Nat.le_of_ble_eq_true rfl)⟩) hH hS hA rfl rfl (fun r_54 _ H locs hw_55 hH hS => ?_)
                  obtain ⟨hr_57, hx2_58⟩ := hw_55
                  have hr_57 : (0 : Int) ≤ r_54.toInt ∧ r_54.toInt ≤ 480 := hr_57
                  have hsk_59 := hx2_58.1
                  have hsk_60 := hx2_58.2.1
                  refine lv_istore_n (lv' := [(2, .int r_54), (1, .int z_50), (3, .int 1), (0, .ref (g 36))]) hx hb dX12_tags_128 rfl hl (by decide) rfl (fun ls hl => ?_)
                  refine lv_goto (tgt := 4) hx hb dX12_tags_129 (by decide) ?_
                  exact ih_lp_1 z_50 r_54 _ _ ls (by omega) (by omega) (by omega) (by omega) (by rw [hi_lp_1_1, tagW_ok (by omega) (by omega) (by omega) (by omega) (by omega) (by omega), tagW_end (f := i 380) (a := f.toInt + 2) (b := (i 36 4).toInt) (by omega), tagW_end (f := i 380) (a := (r_54).toInt) (b := (i 36 4).toInt) (by omega)]; exact hbo.symm) (fun q => (hx2_58).2.2.2 q) (lv_sub hl [0, 1, 3] rfl) hH hS
                · skip
                  have h_61 := s_nle (rfl : (i 36 4).toInt = _) (rfl : z_51.toInt = _) c_52
                  refine lv_iload_n hx hb dX12_tags_111 rfl (lv_at hl 2 rfl) ?_
                  refine lv_iconst (v := 2) hx hb dX12_tags_112 (by decide) ?_
                  refine lv_iadd hx hb dX12_tags_113 ?_
                  obtain ⟨z_62, ez_62, hz_62⟩ := s_add (rfl : f.toInt = _) (show (2 : Int32).toInt = 2 from rfl) (by omega) (by omega)
                  refine sj_i ez_62 ?_
                  refine lv_goto (tgt := 121) hx hb dX12_tags_114 (by decide) ?_
                  refine lv_aload_n hx hb dX12_tags_121 rfl (lv_at hl 3 rfl) ?_
                  refine h_geti (ci := 12) (C := RX12) (F := TX12) (N := 86) hx hb hts in12 hown hK hH (by decide) (rfl : kd 36 = 12) (by decide) rfl 4 (by decide) wd0 (fun _ h9 => h9) (by decide) rfl dX12_tags_122 ?_
                  refine x_calli (va_runS (As := [.ref (g 380), .int z_62, .int (i 36 4)]) (rest := []) ⟨hx, hb, hml, hown, hts⟩ (m_begin_line l D g ka ad i r L d z_62 (i 36 4) hO hR H.size (by first | omega | decide) (by first | omega | decide) (by first | omega | decide)) (cwS 3 hts gX12_tags_X12_begin rfl rfl rfl (by decide +kernel) ⟨(Nat.le_of_ble_eq_true rfl), (Nat.le_of_ble_eq_true rfl)⟩) (x_preS hH hK gxb (gxw hE hS (x_F hH hS hA))) rfl rfl hl.1 rfl (lv_room (Nat.le_of_ble_eq_true rfl)) dX12_tags_125 ⟨(Nat.le_of_ble_eq_true rfl), (Nat.le_of_ble_eq_true rfl)⟩) hH hS hA rfl rfl (fun r_63 _ H locs hw_64 hH hS => ?_)
                  obtain ⟨hr_66, hx2_67⟩ := hw_64
                  have hr_66 : (0 : Int) ≤ r_63.toInt ∧ r_63.toInt ≤ 480 := hr_66
                  have hsk_68 := hx2_67.1
                  have hsk_69 := hx2_67.2.1
                  refine lv_istore_n (lv' := [(2, .int r_63), (1, .int z_50), (3, .int 1), (0, .ref (g 36))]) hx hb dX12_tags_128 rfl hl (by decide) rfl (fun ls hl => ?_)
                  refine lv_goto (tgt := 4) hx hb dX12_tags_129 (by decide) ?_
                  exact ih_lp_1 z_50 r_63 _ _ ls (by omega) (by omega) (by omega) (by omega) (by rw [← tagW_skp (by omega) hx2_67, show (z_62).toInt = f.toInt + 2 by omega, hbo, ← tagW_ok (by omega) (by omega) (by omega) (by omega) (by omega) (by omega)]; exact hi_lp_1_1) (fun q => (hx2_67).2.2.2 q) (lv_sub hl [0, 1, 3] rfl) hH hS
              · skip
                have h_70 := s_nle (rfl : (i 36 4).toInt = _) (rfl : z_39.toInt = _) c_40
                refine lv_aload_n hx hb dX12_tags_57 rfl (lv_at hl 2 rfl) ?_
                refine h_getr (ci := 12) (C := RX12) (F := TX12) (N := 86) hx hb hts in12 hown hK hH (by decide) (rfl : kd 36 = 12) (by decide) rfl 3 (by decide) wd3 (fun _ h9 => h9) (by decide) rfl (t := 380) (hR 36 3 rfl) (by decide) dX12_tags_58 ?_
                refine lv_iload_n hx hb dX12_tags_61 rfl (lv_at hl 0 rfl) ?_
                refine lv_iconst (v := 2) hx hb dX12_tags_62 (by decide) ?_
                refine lv_iadd hx hb dX12_tags_63 ?_
                obtain ⟨z_71, ez_71, hz_71⟩ := s_add (rfl : f.toInt = _) (show (2 : Int32).toInt = 2 from rfl) (by omega) (by omega)
                refine sj_i ez_71 ?_
                have bx_72 : (0 : Int) ≤ (i 380 (f.toInt + 2).toNat).toInt ∧ (i 380 (f.toInt + 2).toNat).toInt ≤ 65535 := hO 380 (f.toInt + 2).toNat
                refine h_cald hx hb hK hH (by decide) (rfl : kd 380 = 14) (s_vin (N := 480) (rfl : z_71.toInt = _) (rfl : ln 380 = 480) (by omega) (by omega)) dX12_tags_64 ?_
                have ek_73 : z_71.toNatClampNeg = (f.toInt + 2).toNat := (s_cl (show z_71.toInt = f.toInt + 2 by omega))
                refine sj_i (y := (i 380 (f.toInt + 2).toNat)) (by rw [ek_73]) ?_
                refine lv_bipush (v := 32) hx hb dX12_tags_65 (by decide) ?_
                refine lv_icmp_ne (tgt := 74) hx hb dX12_tags_67 (by decide) (fun c_74 => ?_) (fun c_74 => ?_)
                · skip
                  have h_75 := s_ne (rfl : (i 380 (f.toInt + 2).toNat).toInt = _) (show (32 : Int32).toInt = 32 from rfl) c_74
                  refine lv_iconst (v := 0) hx hb dX12_tags_74 (by decide) ?_
                  refine lv_istore_n (lv' := [(3, .int 0), (2, .int f), (1, .int t), (0, .ref (g 36))]) hx hb dX12_tags_75 rfl hl (by decide) rfl (fun ls hl => ?_)
                  refine lv_iload_n hx hb dX12_tags_76 rfl (lv_at hl 0 rfl) ?_
                  refine lv_if_ne (tgt := 82) hx hb dX12_tags_77 (by decide) (fun h => absurd (by decide) h) (fun _ => ?_)
                  refine lv_iconst (v := 2) hx hb dX12_tags_80 (by decide) ?_
                  have hV_76 : ((2 : Int32).toInt = 2 ∧ tagW (lnL (i 380) 0 (i 36 4).toInt) 0 = 0 ∧ i = i) ∨ ((2 : Int32).toInt = 0 ∧ 1 ≤ (tagW (lnL (i 380) 0 (i 36 4).toInt) 0).toInt ∧ tgM i i (tagW (lnL (i 380) 0 (i 36 4).toInt) 0)) := (Or.inl ⟨by rfl, by rw [hi_lp_1_1, tagW_no (by omega) (by omega) (by omega) (by omega)], rfl⟩)
                  exact sj_zret hx hb hr hlocks rfl hS i ⟨hO, (fun a b ha => rfl), ⟨by decide, by decide⟩, hV_76⟩ hH (sj_Knil hK) (Nat.le_of_ble_eq_true rfl) (Nat.le_of_ble_eq_true rfl) dX12_tags_81
                · skip
                  have h_77 := s_eq (rfl : (i 380 (f.toInt + 2).toNat).toInt = _) (show (32 : Int32).toInt = 32 from rfl) c_74
                  refine lv_iconst (v := 1) hx hb dX12_tags_70 (by decide) ?_
                  refine lv_goto (tgt := 75) hx hb dX12_tags_71 (by decide) ?_
                  refine lv_istore_n (lv' := [(3, .int 1), (2, .int f), (1, .int t), (0, .ref (g 36))]) hx hb dX12_tags_75 rfl hl (by decide) rfl (fun ls hl => ?_)
                  refine lv_iload_n hx hb dX12_tags_76 rfl (lv_at hl 0 rfl) ?_
                  refine lv_if_ne (tgt := 82) hx hb dX12_tags_77 (by decide) (fun _ => ?_) (fun h => absurd h (by decide))
                  refine lv_iload_n hx hb dX12_tags_82 rfl (lv_at hl 2 rfl) ?_
                  refine lv_iconst (v := 1) hx hb dX12_tags_83 (by decide) ?_
                  refine lv_aload_n hx hb dX12_tags_84 rfl (lv_at hl 3 rfl) ?_
                  refine lv_iload_n hx hb dX12_tags_85 rfl (lv_at hl 1 rfl) ?_
                  refine lv_iconst (v := 1) hx hb dX12_tags_86 (by decide) ?_
                  refine lv_iadd hx hb dX12_tags_87 ?_
                  obtain ⟨z_78, ez_78, hz_78⟩ := s_add (rfl : f.toInt = _) (show (1 : Int32).toInt = 1 from rfl) (by omega) (by omega)
                  refine sj_i ez_78 ?_
                  refine x_calli (va_runV (As := [.int z_78]) (rest := [.int 1, .int t]) ⟨hx, hb, hml, hown, hts⟩ (m_at l D g ka ad i r L d z_78 hO hR H.size (by first | omega | decide)) (cwV 1 hts gX12_tags_X12_at rfl rfl rfl (by decide +kernel) ⟨(Nat.le_of_ble_eq_true rfl), (Nat.le_of_ble_eq_true rfl)⟩) (x_preV (q := (RX12, TX12, 86)) hH hK (q_obj (by decide) (rfl : kd 36 = 12) (by decide)) rfl gxb (gxw hE hS (x_F hH hS hA))) rfl rfl hl.1 rfl (lv_room (Nat.le_of_ble_eq_true rfl)) dX12_tags_88 ⟨(Nat.le_of_ble_eq_true rfl), (Nat.le_of_ble_eq_true rfl)⟩) hH hS hA rfl rfl (fun r_79 _ H locs hw_80 hH hS => ?_)
                  obtain ⟨hr_82, he_83⟩ := hw_80
                  have hr_82 : (0 : Int) ≤ r_79.toInt ∧ r_79.toInt ≤ 65535 := hr_82
                  rw [show z_78.toInt.toNat = (f.toInt + 1).toNat by omega] at he_83
                  refine lv_bipush (v := 97) hx hb dX12_tags_91 (by decide) ?_
                  refine lv_isub hx hb dX12_tags_93 ?_
                  obtain ⟨z_84, ez_84, hz_84⟩ := s_sub (rfl : r_79.toInt = _) (show (97 : Int32).toInt = 97 from rfl) (by omega) (by omega)
                  refine sj_i ez_84 ?_
                  refine lv_ishl hx hb dX12_tags_94 ?_
                  refine lv_topi (fun z_85 ez_85 => ?_)
                  refine lv_ior hx hb dX12_tags_95 ?_
                  refine lv_topi (fun z_86 ez_86 => ?_)
                  have hbo : z_86 = bitO t (i 380 (f.toInt + 1).toNat).toInt := by
                    unfold bitO; rw [ez_86, ez_85, show z_84 = nI ((i 380 (f.toInt + 1).toNat).toInt - 97).toNat from s_ofN (show z_84.toInt = (i 380 (f.toInt + 1).toNat).toInt - 97 by omega) (by omega) (by omega)]
                  have hz_86 := bitO_r (s := t) (c := (i 380 (f.toInt + 1).toNat).toInt) ⟨by omega, by omega⟩ (by omega) (by omega)
                  rw [← hbo] at hz_86
                  refine lv_istore_n (lv' := [(1, .int z_86), (3, .int 1), (2, .int f), (0, .ref (g 36))]) hx hb dX12_tags_96 rfl hl (by decide) rfl (fun ls hl => ?_)
                  refine lv_aload_n hx hb dX12_tags_97 rfl (lv_at hl 3 rfl) ?_
                  refine h_getr (ci := 12) (C := RX12) (F := TX12) (N := 86) hx hb hts in12 hown hK hH (by decide) (rfl : kd 36 = 12) (by decide) rfl 3 (by decide) wd3 (fun _ h9 => h9) (by decide) rfl (t := 380) (hR 36 3 rfl) (by decide) dX12_tags_98 ?_
                  refine lv_iload_n hx hb dX12_tags_101 rfl (lv_at hl 2 rfl) ?_
                  refine lv_iconst (v := 2) hx hb dX12_tags_102 (by decide) ?_
                  refine lv_iadd hx hb dX12_tags_103 ?_
                  obtain ⟨z_87, ez_87, hz_87⟩ := s_add (rfl : f.toInt = _) (show (2 : Int32).toInt = 2 from rfl) (by omega) (by omega)
                  refine sj_i ez_87 ?_
                  refine lv_aload_n hx hb dX12_tags_104 rfl (lv_at hl 3 rfl) ?_
                  refine h_geti (ci := 12) (C := RX12) (F := TX12) (N := 86) hx hb hts in12 hown hK hH (by decide) (rfl : kd 36 = 12) (by decide) rfl 4 (by decide) wd0 (fun _ h9 => h9) (by decide) rfl dX12_tags_105 ?_
                  refine lv_icmp_ge (tgt := 117) hx hb dX12_tags_108 (by decide) (fun c_88 => ?_) (fun c_88 => ?_)
                  · skip
                    have h_89 := s_le (rfl : (i 36 4).toInt = _) (rfl : z_87.toInt = _) c_88
                    refine lv_aload_n hx hb dX12_tags_117 rfl (lv_at hl 3 rfl) ?_
                    refine h_geti (ci := 12) (C := RX12) (F := TX12) (N := 86) hx hb hts in12 hown hK hH (by decide) (rfl : kd 36 = 12) (by decide) rfl 4 (by decide) wd0 (fun _ h9 => h9) (by decide) rfl dX12_tags_118 ?_
                    refine lv_aload_n hx hb dX12_tags_121 rfl (lv_at hl 3 rfl) ?_
                    refine h_geti (ci := 12) (C := RX12) (F := TX12) (N := 86) hx hb hts in12 hown hK hH (by decide) (rfl : kd 36 = 12) (by decide) rfl 4 (by decide) wd0 (fun _ h9 => h9) (by decide) rfl dX12_tags_122 ?_
                    refine x_calli (va_runS (As := [.ref (g 380), .int (i 36 4), .int (i 36 4)]) (rest := []) ⟨hx, hb, hml, hown, hts⟩ (m_begin_line l D g ka ad i r L d (i 36 4) (i 36 4) hO hR H.size (by first | omega | decide) (by first | omega | decide) (by first | omega | decide)) (cwS 3 hts gX12_tags_X12_begin rfl rfl rfl (by decide +kernel) ⟨(Nat.le_of_ble_eq_true rfl), (Nat.le_of_ble_eq_true rfl)⟩) (x_preS hH hK gxb (gxw hE hS (x_F hH hS hA))) rfl rfl hl.1 rfl (lv_room (Nat.le_of_ble_eq_true rfl)) dX12_tags_125 ⟨(Nat.le_of_ble_eq_true rfl), (Nat.le_of_ble_eq_true rfl)⟩) hH hS hA rfl rfl (fun r_90 _ H locs hw_91 hH hS => ?_)
                    obtain ⟨hr_93, hx2_94⟩ := hw_91
                    have hr_93 : (0 : Int) ≤ r_90.toInt ∧ r_90.toInt ≤ 480 := hr_93
                    have hsk_95 := hx2_94.1
                    have hsk_96 := hx2_94.2.1
                    refine lv_istore_n (lv' := [(2, .int r_90), (1, .int z_86), (3, .int 1), (0, .ref (g 36))]) hx hb dX12_tags_128 rfl hl (by decide) rfl (fun ls hl => ?_)
                    refine lv_goto (tgt := 4) hx hb dX12_tags_129 (by decide) ?_
                    exact ih_lp_1 z_86 r_90 _ _ ls (by omega) (by omega) (by omega) (by omega) (by rw [hi_lp_1_1, tagW_ok (by omega) (by omega) (by omega) (by omega) (by omega) (by omega), tagW_end (f := i 380) (a := f.toInt + 2) (b := (i 36 4).toInt) (by omega), tagW_end (f := i 380) (a := (r_90).toInt) (b := (i 36 4).toInt) (by omega)]; exact hbo.symm) (fun q => (hx2_94).2.2.2 q) (lv_sub hl [0, 1, 3] rfl) hH hS
                  · skip
                    have h_97 := s_nle (rfl : (i 36 4).toInt = _) (rfl : z_87.toInt = _) c_88
                    refine lv_iload_n hx hb dX12_tags_111 rfl (lv_at hl 2 rfl) ?_
                    refine lv_iconst (v := 2) hx hb dX12_tags_112 (by decide) ?_
                    refine lv_iadd hx hb dX12_tags_113 ?_
                    obtain ⟨z_98, ez_98, hz_98⟩ := s_add (rfl : f.toInt = _) (show (2 : Int32).toInt = 2 from rfl) (by omega) (by omega)
                    refine sj_i ez_98 ?_
                    refine lv_goto (tgt := 121) hx hb dX12_tags_114 (by decide) ?_
                    refine lv_aload_n hx hb dX12_tags_121 rfl (lv_at hl 3 rfl) ?_
                    refine h_geti (ci := 12) (C := RX12) (F := TX12) (N := 86) hx hb hts in12 hown hK hH (by decide) (rfl : kd 36 = 12) (by decide) rfl 4 (by decide) wd0 (fun _ h9 => h9) (by decide) rfl dX12_tags_122 ?_
                    refine x_calli (va_runS (As := [.ref (g 380), .int z_98, .int (i 36 4)]) (rest := []) ⟨hx, hb, hml, hown, hts⟩ (m_begin_line l D g ka ad i r L d z_98 (i 36 4) hO hR H.size (by first | omega | decide) (by first | omega | decide) (by first | omega | decide)) (cwS 3 hts gX12_tags_X12_begin rfl rfl rfl (by decide +kernel) ⟨(Nat.le_of_ble_eq_true rfl), (Nat.le_of_ble_eq_true rfl)⟩) (x_preS hH hK gxb (gxw hE hS (x_F hH hS hA))) rfl rfl hl.1 rfl (lv_room (Nat.le_of_ble_eq_true rfl)) dX12_tags_125 ⟨(Nat.le_of_ble_eq_true rfl), (Nat.le_of_ble_eq_true rfl)⟩) hH hS hA rfl rfl (fun r_99 _ H locs hw_100 hH hS => ?_)
                    obtain ⟨hr_102, hx2_103⟩ := hw_100
                    have hr_102 : (0 : Int) ≤ r_99.toInt ∧ r_99.toInt ≤ 480 := hr_102
                    have hsk_104 := hx2_103.1
                    have hsk_105 := hx2_103.2.1
                    refine lv_istore_n (lv' := [(2, .int r_99), (1, .int z_86), (3, .int 1), (0, .ref (g 36))]) hx hb dX12_tags_128 rfl hl (by decide) rfl (fun ls hl => ?_)
                    refine lv_goto (tgt := 4) hx hb dX12_tags_129 (by decide) ?_
                    exact ih_lp_1 z_86 r_99 _ _ ls (by omega) (by omega) (by omega) (by omega) (by rw [← tagW_skp (by omega) hx2_103, show (z_98).toInt = f.toInt + 2 by omega, hbo, ← tagW_ok (by omega) (by omega) (by omega) (by omega) (by omega) (by omega)]; exact hi_lp_1_1) (fun q => (hx2_103).2.2.2 q) (lv_sub hl [0, 1, 3] rfl) hH hS
  have hl_106 : (0 : Int32).toInt = 0 := rfl
  have hl_107 : (0 : Int32).toInt = 0 := rfl
  exact lp_1 _ 0 0 _ _ ls (Nat.lt_succ_self _) (by omega) (by omega) (by omega) (by rw [show (0 : Int32).toInt = 0 from rfl]) (fun q => by rw [show (0 : Int32).toInt.toNat = 0 from rfl]; omega) (lv_sub hl [0, 1, 2] rfl) hH hS
set_option maxHeartbeats 2000000 in
set_option maxRecDepth 100000 in
theorem m_firstRow (l : Launch) (D : va_G) (g : Nat → Nat) (ka : Nat → ClassId) (ad : Nat → Nat) (i : Nat → Nat → Int32) (r : Nat → Nat → Nat) (L : Nat → Nat → Int64) (d : Nat → Nat → UInt64) (x : Int32) (hO : OkI i) (hR : RS r) (sz : Nat)  : Met l yX12_firstRow wsX12_firstRow ({ frames := 1, cells := 0, slots := 0, locals := 25 }) (va_Pc [.ref (g 36), .int x] (sj_B D (hwc g ka i r L d) (hT ka) sz (gx ad (va_A (hwc g ka i r L d) sz)))) (sj_Qi (S := Unit) D (fun v u => ((-1 : Int) ≤ v.toInt ∧ v.toInt ≤ 39) ∧ ((v.toInt = -1 ∧ (cnt (i 392) x.toInt (i 36 26).toInt.toNat : Int) ≤ 0) ∨ (0 ≤ v.toInt ∧ v.toInt < (i 36 26).toInt ∧ (i 392 v.toInt.toNat).toInt = x.toInt ∧ (cnt (i 392) x.toInt v.toInt.toNat : Int) = 0))) (fun _ => hwc g ka i r L d) (fun _ => []) (va_A (hwc g ka i r L d) sz)) 0 0 (va_A (hwc g ka i r L d) sz) := by
  refine x_met (Ex := gx ad) (cc := cX12_firstRow) (maxL := 2) (ret := (some .int)) (by decide) rfl (Nat.le_of_ble_eq_true rfl) ?_
  intro p e s m below meth c A ls hx hb hr hml hts hown hlocks hA hS hH hK hE hl
  have hown : s.vm.findClass RX12 = some m.cls := hown
  have in12 : ∀ w ∈ wsX120, w ∈ wsX12_firstRow := (fun _ h => (List.mem_cons_of_mem _ (List.mem_append_right _ h)))
  have wd0 := hts (.fieldLink RX12 67 "StoryDeskModel" "rowOwner" "[I") (List.mem_cons_of_mem _ (List.mem_append_left _ lm0))
  have wd1 := hts (.fieldLink RX12 70 "StoryDeskModel" "rows" "I") (List.mem_cons_of_mem _ (List.mem_append_left _ lm1))
  have hl : lv_has ls 2 [(0, .ref (g 36)), (1, .int x)] := hl
  have hK : va_K D vwCl (hT ka) s := hK
  have hg_1 := s_rng x
  have hb26 : (0 : Int) ≤ (i 36 26).toInt ∧ (i 36 26).toInt ≤ 40 := hO 36 26
  have hz0 : (0 : Int32).toInt = 0 := rfl
  refine lv_aload_n hx hb dX12_firstRow_0 rfl (lv_at hl 0 rfl) ?_
  refine h_getr (ci := 12) (C := RX12) (F := TX12) (N := 86) hx hb hts in12 hown hK hH (by decide) (rfl : kd 36 = 12) (by decide) rfl 28 (by decide) wd0 (fun _ h9 => h9) (by decide) rfl (t := 392) (hR 36 28 rfl) (by decide) dX12_firstRow_1 ?_
  refine lv_aload_n hx hb dX12_firstRow_4 rfl (lv_at hl 0 rfl) ?_
  have bx_2 : (0 : Int) ≤ (i 36 26).toInt ∧ (i 36 26).toInt ≤ 40 := hO 36 26
  refine h_geti (ci := 12) (C := RX12) (F := TX12) (N := 86) hx hb hts in12 hown hK hH (by decide) (rfl : kd 36 = 12) (by decide) rfl 26 (by decide) wd1 (fun _ h9 => h9) (by decide) rfl dX12_firstRow_5 ?_
  refine lv_iload_n hx hb dX12_firstRow_8 rfl (lv_at hl 1 rfl) ?_
  refine lv_iconst (v := 0) hx hb dX12_firstRow_9 (by decide) ?_
  have hl_3 : (0 : Int32).toInt = 0 := rfl
  refine x_calli (va_runS (As := [.ref (g 392), .int (i 36 26), .int x, .int 0]) (rest := []) ⟨hx, hb, hml, hown, hts⟩ (m_find_rows l D g ka ad i r L d (i 36 26) x 0 hO hR s.heap.size (by first | omega | decide) (by first | omega | decide) (by first | omega | decide)) (cwS 4 hts gX12_firstRow_X12_find rfl rfl rfl (by decide +kernel) ⟨(Nat.le_of_ble_eq_true rfl), (Nat.le_of_ble_eq_true rfl)⟩) (x_preS hH hK gxb (gxw hE hS (x_F hH hS hA))) rfl rfl hl.1 rfl (lv_room (Nat.le_of_ble_eq_true rfl)) dX12_firstRow_10 ⟨(Nat.le_of_ble_eq_true rfl), (Nat.le_of_ble_eq_true rfl)⟩) hH hS hA rfl rfl (fun r_4 _ H locs hw_5 hH hS => ?_)
  obtain ⟨hr_7, he_8⟩ := hw_5
  have hr_7 : (-1 : Int) ≤ r_4.toInt ∧ r_4.toInt ≤ 39 := hr_7
  exact sj_zret hx hb hr hlocks rfl hS () ⟨⟨by omega, by omega⟩, (by first | omega | (refine ⟨?_, ?_, ?_, ?_, ?_⟩ <;> first | assumption | omega))⟩ hH (sj_Knil hK) (Nat.le_of_ble_eq_true rfl) (Nat.le_of_ble_eq_true rfl) dX12_firstRow_13
set_option maxHeartbeats 2000000 in
set_option maxRecDepth 100000 in
theorem m_cut (l : Launch) (D : va_G) (g : Nat → Nat) (ka : Nat → ClassId) (ad : Nat → Nat) (i : Nat → Nat → Int32) (r : Nat → Nat → Nat) (L : Nat → Nat → Int64) (d : Nat → Nat → UInt64) (x : Int32) (y : Int32) (z : Int32) (hO : OkI i) (hR : RS r) (sz : Nat) (hx0 : 0 ≤ x.toInt) (hx1 : x.toInt ≤ 159) (hy0 : 0 ≤ y.toInt) (hyz : y.toInt ≤ z.toInt) (hz8 : z.toInt ≤ 480) : Met l yX12_cut wsX12_cut ({ frames := 1, cells := 0, slots := 0, locals := 23 }) (va_Pc [.ref (g 36), .int x, .int y, .int z] (sj_B D (hwc g ka i r L d) (hT ka) sz (gx ad (va_A (hwc g ka i r L d) sz)))) (sj_Qv (S := (Nat → Nat → Int32)) D (fun u => OkI u ∧ (∀ a b, ¬ (a = 395 ∨ a = 396) → u a b = i a b)) (fun u => hwc g ka u r L d) (fun _ => []) (va_A (hwc g ka i r L d) sz)) 0 0 (va_A (hwc g ka i r L d) sz) := by
  refine x_met (Ex := gx ad) (cc := cX12_cut) (maxL := 7) (ret := none) (by decide) rfl (Nat.le_of_ble_eq_true rfl) ?_
  intro p e s m below meth c A ls hx hb hr hml hts hown hlocks hA hS hH hK hE hl
  have hown : s.vm.findClass RX12 = some m.cls := hown
  have in12 : ∀ w ∈ wsX120, w ∈ wsX12_cut := (fun _ h => (List.mem_cons_of_mem _ (List.mem_append_right _ h)))
  have wd0 := hts (.fieldLink RX12 19 "StoryDeskModel" "line" "[C") (List.mem_cons_of_mem _ (List.mem_append_left _ lm0))
  have wd1 := hts (.fieldLink RX12 93 "StoryDeskModel" "cellSize" "[I") (List.mem_cons_of_mem _ (List.mem_append_left _ lm1))
  have wd2 := hts (.fieldLink RX12 96 "StoryDeskModel" "cellText" "[C") (List.mem_cons_of_mem _ (List.mem_append_left _ lm2))
  have hl : lv_has ls 7 [(0, .ref (g 36)), (1, .int x), (2, .int y), (3, .int z)] := hl
  have hK : va_K D vwCl (hT ka) s := hK
  refine lv_aload_n hx hb dX12_cut_0 rfl (lv_at hl 0 rfl) ?_
  refine h_getr (ci := 12) (C := RX12) (F := TX12) (N := 86) hx hb hts in12 hown hK hH (by decide) (rfl : kd 36 = 12) (by decide) rfl 3 (by decide) wd0 (fun _ h9 => h9) (by decide) rfl (t := 380) (hR 36 3 rfl) (by decide) dX12_cut_1 ?_
  refine lv_iload_n hx hb dX12_cut_4 rfl (lv_at hl 2 rfl) ?_
  refine lv_iload_n hx hb dX12_cut_5 rfl (lv_at hl 3 rfl) ?_
  refine x_calli (va_runS (As := [.ref (g 380), .int y, .int z]) (rest := []) ⟨hx, hb, hml, hown, hts⟩ (m_begin_line l D g ka ad i r L d y z hO hR s.heap.size (by first | omega | decide) (by first | omega | decide) (by first | omega | decide)) (cwS 3 hts gX12_cut_X12_begin rfl rfl rfl (by decide +kernel) ⟨(Nat.le_of_ble_eq_true rfl), (Nat.le_of_ble_eq_true rfl)⟩) (x_preS hH hK gxb (gxw hE hS (x_F hH hS hA))) rfl rfl hl.1 rfl (lv_room (Nat.le_of_ble_eq_true rfl)) dX12_cut_6 ⟨(Nat.le_of_ble_eq_true rfl), (Nat.le_of_ble_eq_true rfl)⟩) hH hS hA rfl rfl (fun r_1 _ H locs hw_2 hH hS => ?_)
  obtain ⟨hr_4, hx2_5⟩ := hw_2
  have hr_4 : (0 : Int) ≤ r_1.toInt ∧ r_1.toInt ≤ 480 := hr_4
  have hsk_6 := hx2_5.1
  have hsk_7 := hx2_5.2.1
  refine lv_istore (lv' := [(4, .int r_1), (0, .ref (g 36)), (1, .int x), (2, .int y), (3, .int z)]) hx hb dX12_cut_9 hl (by decide) rfl (fun ls hl => ?_)
  refine lv_aload_n hx hb dX12_cut_11 rfl (lv_at hl 1 rfl) ?_
  refine h_getr (ci := 12) (C := RX12) (F := TX12) (N := 86) hx hb hts in12 hown hK hH (by decide) (rfl : kd 36 = 12) (by decide) rfl 3 (by decide) wd0 (fun _ h9 => h9) (by decide) rfl (t := 380) (hR 36 3 rfl) (by decide) dX12_cut_12 ?_
  refine lv_iload hx hb dX12_cut_15 (lv_at hl 0 rfl) ?_
  refine lv_iload_n hx hb dX12_cut_17 rfl (lv_at hl 4 rfl) ?_
  refine x_calli (va_runS (As := [.ref (g 380), .int r_1, .int z]) (rest := []) ⟨hx, hb, hml, hown, hts⟩ (m_end_line l D g ka ad i r L d r_1 z hO hR H.size (by first | omega | decide) (by first | omega | decide) (by first | omega | decide)) (cwS 3 hts gX12_cut_X12_end rfl rfl rfl (by decide +kernel) ⟨(Nat.le_of_ble_eq_true rfl), (Nat.le_of_ble_eq_true rfl)⟩) (x_preS hH hK gxb (gxw hE hS (x_F hH hS hA))) rfl rfl hl.1 rfl (lv_room (Nat.le_of_ble_eq_true rfl)) dX12_cut_18 ⟨(Nat.le_of_ble_eq_true rfl), (Nat.le_of_ble_eq_true rfl)⟩) hH hS hA rfl rfl (fun r_8 _ H locs hw_9 hH hS => ?_)
  obtain ⟨hr_11, hx2_12⟩ := hw_9
  have hr_11 : (0 : Int) ≤ r_8.toInt ∧ r_8.toInt ≤ 480 := hr_11
  have hsk_13 := hx2_12.1
  have hsk_14 := hx2_12.2.1
  refine lv_iload hx hb dX12_cut_21 (lv_at hl 0 rfl) ?_
  refine lv_isub hx hb dX12_cut_23 ?_
  obtain ⟨z_15, ez_15, hz_15⟩ := s_sub (rfl : r_8.toInt = _) (rfl : r_1.toInt = _) (by omega) (by omega)
  refine sj_i ez_15 ?_
  refine lv_istore (lv' := [(5, .int z_15), (4, .int r_1), (0, .ref (g 36)), (1, .int x), (2, .int y), (3, .int z)]) hx hb dX12_cut_24 hl (by decide) rfl (fun ls hl => ?_)
  refine lv_aload_n hx hb dX12_cut_26 rfl (lv_at hl 2 rfl) ?_
  refine h_getr (ci := 12) (C := RX12) (F := TX12) (N := 86) hx hb hts in12 hown hK hH (by decide) (rfl : kd 36 = 12) (by decide) rfl 31 (by decide) wd1 (fun _ h9 => h9) (by decide) rfl (t := 395) (hR 36 31 rfl) (by decide) dX12_cut_27 ?_
  refine lv_iload_n hx hb dX12_cut_30 rfl (lv_at hl 3 rfl) ?_
  refine lv_iload hx hb dX12_cut_31 (lv_at hl 0 rfl) ?_
  refine lv_bipush (v := 60) hx hb dX12_cut_33 (by decide) ?_
  refine lv_icmp_ge (tgt := 43) hx hb dX12_cut_35 (by decide) (fun c_16 => ?_) (fun c_16 => ?_)
  · skip
    have h_17 := s_le (show (60 : Int32).toInt = 60 from rfl) (rfl : z_15.toInt = _) c_16
    refine lv_bipush (v := 60) hx hb dX12_cut_43 (by decide) ?_
    have hO_18 := okp hO (n := 395) (k := (x.toInt).toNat) (v := 60) (show (0 : Int) ≤ (60 : Int32).toInt ∧ (60 : Int32).toInt ≤ 60 from ⟨by decide, by decide⟩)
    refine h_iast hx hb hK hH hS (by decide) (rfl : kd 395 = 13) (s_vin (N := 160) (rfl : x.toInt = _) (rfl : ln 395 = 160) (by omega) (by omega)) dX12_cut_45 (fun H locs hH hS => ?_)
    rw [s_cl (show x.toInt = x.toInt by omega)] at hH
    refine lv_iconst (v := 0) hx hb dX12_cut_46 (by decide) ?_
    refine lv_istore (lv' := [(6, .int 0), (5, .int z_15), (4, .int r_1), (0, .ref (g 36)), (1, .int x), (2, .int y), (3, .int z)]) hx hb dX12_cut_47 hl (by decide) rfl (fun ls hl => ?_)
    -- loop at 49
    have lp_19 : ∀ (fuel_lp_19 : Nat) (f : Int32) (j1 : Nat → Nat → Int32) (H : Heap) (locs : List Loc) (ls : Array Slot), (60 - f.toInt).toNat < fuel_lp_19 → (0 : Int) ≤ f.toInt ∧ f.toInt ≤ 60 → 0 ≤ f.toInt → OkI j1 → (∀ a b, ¬ (a = 396) → j1 a b = (up2 i 395 (x.toInt).toNat 60) a b) → lv_has ls 7 [(6, .int f), (5, .int z_15), (4, .int r_1), (0, .ref (g 36)), (1, .int x), (2, .int y), (3, .int z)] → sj_H D A (hwc g ka j1 r L d) H → va_S A s.heap H locs → W p l e (headSpec wsX12_cut ({ frames := 1, cells := 0, slots := 0, locals := 23 })).room s m ([.ref (g 36), .int x, .int y, .int z] : List Value).toArray below meth c H locs 0 0 (MQ below (sj_Qv (S := (Nat → Nat → Int32)) D (fun u => OkI u ∧ (∀ a b, ¬ (a = 395 ∨ a = 396) → u a b = i a b)) (fun u => hwc g ka u r L d) (fun _ => []) A) ([.ref (g 36), .int x, .int y, .int z] : List Value).toArray s 0 0 A) (F0 m 49 ls []) := by
      intro fuel_lp_19
      induction fuel_lp_19 with
      | zero => intros; omega
      | succ fuel_lp_19 ih_lp_19 =>
        intro f j1 H locs ls hm hr_f hi_lp_19_0 hO_j1 hfr_j1 hl hH hS
        refine lv_iload hx hb dX12_cut_49 (lv_at hl 0 rfl) ?_
        refine lv_aload_n hx hb dX12_cut_51 rfl (lv_at hl 3 rfl) ?_
        refine h_getr (ci := 12) (C := RX12) (F := TX12) (N := 86) hx hb hts in12 hown hK hH (by decide) (rfl : kd 36 = 12) (by decide) rfl 31 (by decide) wd1 (fun _ h9 => h9) (by decide) rfl (t := 395) (hR 36 31 rfl) (by decide) dX12_cut_52 ?_
        refine lv_iload_n hx hb dX12_cut_55 rfl (lv_at hl 4 rfl) ?_
        refine h_iald hx hb hK hH (by decide) (rfl : kd 395 = 13) (s_vin (N := 160) (rfl : x.toInt = _) (rfl : ln 395 = 160) (by omega) (by omega)) dX12_cut_56 ?_
        have ek_20 : x.toNatClampNeg = (x.toInt).toNat := (s_cl (show x.toInt = x.toInt by omega))
        refine sj_i (y := 60) (by rw [ek_20]; exact ((hfr_j1 395 (x.toInt).toNat (by omega)).trans (up2_at _ _ _ _))) ?_
        refine lv_icmp_ge (tgt := 88) hx hb dX12_cut_57 (by decide) (fun c_21 => ?_) (fun c_21 => ?_)
        · skip
          have h_22 := s_le (show (60 : Int32).toInt = 60 from rfl) (rfl : f.toInt = _) c_21
          exact sj_vret hx hb hr hlocks hS j1 ⟨hO_j1, (fun a b ha => ((hfr_j1 a b (by omega)).trans (up2_o _ _ (by omega))))⟩ hH (sj_Knil hK) (Nat.le_of_ble_eq_true rfl) (Nat.le_of_ble_eq_true rfl) dX12_cut_88
        · skip
          have h_23 := s_nle (show (60 : Int32).toInt = 60 from rfl) (rfl : f.toInt = _) c_21
          refine lv_aload_n hx hb dX12_cut_60 rfl (lv_at hl 3 rfl) ?_
          refine h_getr (ci := 12) (C := RX12) (F := TX12) (N := 86) hx hb hts in12 hown hK hH (by decide) (rfl : kd 36 = 12) (by decide) rfl 32 (by decide) wd2 (fun _ h9 => h9) (by decide) rfl (t := 396) (hR 36 32 rfl) (by decide) dX12_cut_61 ?_
          refine lv_bipush (v := 60) hx hb dX12_cut_64 (by decide) ?_
          refine lv_iload_n hx hb dX12_cut_66 rfl (lv_at hl 4 rfl) ?_
          refine lv_imul hx hb dX12_cut_67 ?_
          obtain ⟨z_24, ez_24, hz_24⟩ := s_mul (show (60 : Int32).toInt = 60 from rfl) (rfl : x.toInt = _) (by omega) (by omega)
          refine sj_i ez_24 ?_
          refine lv_iload hx hb dX12_cut_68 (lv_at hl 0 rfl) ?_
          refine lv_iadd hx hb dX12_cut_70 ?_
          obtain ⟨z_25, ez_25, hz_25⟩ := s_add (rfl : z_24.toInt = _) (rfl : f.toInt = _) (by omega) (by omega)
          refine sj_i ez_25 ?_
          refine lv_aload_n hx hb dX12_cut_71 rfl (lv_at hl 3 rfl) ?_
          refine h_getr (ci := 12) (C := RX12) (F := TX12) (N := 86) hx hb hts in12 hown hK hH (by decide) (rfl : kd 36 = 12) (by decide) rfl 3 (by decide) wd0 (fun _ h9 => h9) (by decide) rfl (t := 380) (hR 36 3 rfl) (by decide) dX12_cut_72 ?_
          refine lv_iload hx hb dX12_cut_75 (lv_at hl 2 rfl) ?_
          refine lv_iload hx hb dX12_cut_77 (lv_at hl 0 rfl) ?_
          refine lv_iadd hx hb dX12_cut_79 ?_
          obtain ⟨z_26, ez_26, hz_26⟩ := s_add (rfl : r_1.toInt = _) (rfl : f.toInt = _) (by omega) (by omega)
          refine sj_i ez_26 ?_
          have bx_27 : (0 : Int) ≤ (i 380 (f.toInt + r_1.toInt).toNat).toInt ∧ (i 380 (f.toInt + r_1.toInt).toNat).toInt ≤ 65535 := hO 380 (f.toInt + r_1.toInt).toNat
          refine h_cald hx hb hK hH (by decide) (rfl : kd 380 = 14) (s_vin (N := 480) (rfl : z_26.toInt = _) (rfl : ln 380 = 480) (by omega) (by omega)) dX12_cut_80 ?_
          have ek_28 : z_26.toNatClampNeg = (f.toInt + r_1.toInt).toNat := (s_cl (show z_26.toInt = f.toInt + r_1.toInt by omega))
          refine sj_i (y := (i 380 (f.toInt + r_1.toInt).toNat)) (by rw [ek_28]; exact ((hfr_j1 380 (f.toInt + r_1.toInt).toNat (by omega)).trans (congrFun (up2_n _ _ (by decide)) _))) ?_
          obtain ⟨z_29, ez_29⟩ : ∃ z, vp_nar .char (i 380 (f.toInt + r_1.toInt).toNat) = z := ⟨_, rfl⟩
          have hz_29 : z_29.toInt = (i 380 (f.toInt + r_1.toInt).toNat).toInt := by rw [← ez_29, s_narc (rfl : (i 380 (f.toInt + r_1.toInt).toNat).toInt = _) (by omega) (by omega)] <;> exact (rfl : (i 380 (f.toInt + r_1.toInt).toNat).toInt = _)
          have hO_30 := okp hO_j1 (n := 396) (k := (f.toInt + 60 * x.toInt).toNat) (v := z_29) (show (0 : Int) ≤ (z_29 : Int32).toInt ∧ (z_29 : Int32).toInt ≤ 65535 from ⟨by omega, by omega⟩)
          refine h_cast hx hb hK hH hS (by decide) (rfl : kd 396 = 14) (s_vin (N := 9600) (rfl : z_25.toInt = _) (rfl : ln 396 = 9600) (by omega) (by omega)) dX12_cut_81 (fun H locs hH hS => ?_)
          rw [ez_29] at hH
          rw [s_cl (show z_25.toInt = f.toInt + 60 * x.toInt by omega)] at hH
          obtain ⟨z_31, ez_31, hz_31⟩ := s_add (rfl : f.toInt = _) (show (1 : Int32).toInt = 1 from rfl) (by omega) (by omega)
          refine lv_iinc (v := z_31) (lv' := [(6, .int z_31), (5, .int z_15), (4, .int r_1), (0, .ref (g 36)), (1, .int x), (2, .int y), (3, .int z)]) hx hb dX12_cut_82 hl (k := 0) rfl ez_31 (by decide) rfl (fun ls hl => ?_)
          refine lv_goto (tgt := 49) hx hb dX12_cut_85 (by decide) ?_
          exact ih_lp_19 z_31 _ _ _ ls (by omega) (by omega) (by omega) hO_30 (fun a b ha => ((up2_o _ _ (by omega)).trans (hfr_j1 a b (by omega)))) (lv_sub hl [0, 1, 2, 3, 4, 5, 6] rfl) hH hS
    have hl_32 : (0 : Int32).toInt = 0 := rfl
    exact lp_19 _ 0 _ _ _ ls (Nat.lt_succ_self _) (by omega) (by omega) hO_18 (fun a b ha => rfl) (lv_sub hl [0, 1, 2, 3, 4, 5, 6] rfl) hH hS
  · skip
    have h_33 := s_nle (show (60 : Int32).toInt = 60 from rfl) (rfl : z_15.toInt = _) c_16
    refine lv_iload hx hb dX12_cut_38 (lv_at hl 0 rfl) ?_
    refine lv_goto (tgt := 45) hx hb dX12_cut_40 (by decide) ?_
    have hO_34 := okp hO (n := 395) (k := (x.toInt).toNat) (v := z_15) (show (0 : Int) ≤ (z_15 : Int32).toInt ∧ (z_15 : Int32).toInt ≤ 60 from ⟨by omega, by omega⟩)
    refine h_iast hx hb hK hH hS (by decide) (rfl : kd 395 = 13) (s_vin (N := 160) (rfl : x.toInt = _) (rfl : ln 395 = 160) (by omega) (by omega)) dX12_cut_45 (fun H locs hH hS => ?_)
    rw [s_cl (show x.toInt = x.toInt by omega)] at hH
    refine lv_iconst (v := 0) hx hb dX12_cut_46 (by decide) ?_
    refine lv_istore (lv' := [(6, .int 0), (5, .int z_15), (4, .int r_1), (0, .ref (g 36)), (1, .int x), (2, .int y), (3, .int z)]) hx hb dX12_cut_47 hl (by decide) rfl (fun ls hl => ?_)
    -- loop at 49
    have lp_35 : ∀ (fuel_lp_35 : Nat) (f : Int32) (j1 : Nat → Nat → Int32) (H : Heap) (locs : List Loc) (ls : Array Slot), (60 - f.toInt).toNat < fuel_lp_35 → (0 : Int) ≤ f.toInt ∧ f.toInt ≤ 60 → 0 ≤ f.toInt → OkI j1 → (∀ a b, ¬ (a = 396) → j1 a b = (up2 i 395 (x.toInt).toNat z_15) a b) → lv_has ls 7 [(6, .int f), (5, .int z_15), (4, .int r_1), (0, .ref (g 36)), (1, .int x), (2, .int y), (3, .int z)] → sj_H D A (hwc g ka j1 r L d) H → va_S A s.heap H locs → W p l e (headSpec wsX12_cut ({ frames := 1, cells := 0, slots := 0, locals := 23 })).room s m ([.ref (g 36), .int x, .int y, .int z] : List Value).toArray below meth c H locs 0 0 (MQ below (sj_Qv (S := (Nat → Nat → Int32)) D (fun u => OkI u ∧ (∀ a b, ¬ (a = 395 ∨ a = 396) → u a b = i a b)) (fun u => hwc g ka u r L d) (fun _ => []) A) ([.ref (g 36), .int x, .int y, .int z] : List Value).toArray s 0 0 A) (F0 m 49 ls []) := by
      intro fuel_lp_35
      induction fuel_lp_35 with
      | zero => intros; omega
      | succ fuel_lp_35 ih_lp_35 =>
        intro f j1 H locs ls hm hr_f hi_lp_35_0 hO_j1 hfr_j1 hl hH hS
        refine lv_iload hx hb dX12_cut_49 (lv_at hl 0 rfl) ?_
        refine lv_aload_n hx hb dX12_cut_51 rfl (lv_at hl 3 rfl) ?_
        refine h_getr (ci := 12) (C := RX12) (F := TX12) (N := 86) hx hb hts in12 hown hK hH (by decide) (rfl : kd 36 = 12) (by decide) rfl 31 (by decide) wd1 (fun _ h9 => h9) (by decide) rfl (t := 395) (hR 36 31 rfl) (by decide) dX12_cut_52 ?_
        refine lv_iload_n hx hb dX12_cut_55 rfl (lv_at hl 4 rfl) ?_
        refine h_iald hx hb hK hH (by decide) (rfl : kd 395 = 13) (s_vin (N := 160) (rfl : x.toInt = _) (rfl : ln 395 = 160) (by omega) (by omega)) dX12_cut_56 ?_
        have ek_36 : x.toNatClampNeg = (x.toInt).toNat := (s_cl (show x.toInt = x.toInt by omega))
        refine sj_i (y := z_15) (by rw [ek_36]; exact ((hfr_j1 395 (x.toInt).toNat (by omega)).trans (up2_at _ _ _ _))) ?_
        refine lv_icmp_ge (tgt := 88) hx hb dX12_cut_57 (by decide) (fun c_37 => ?_) (fun c_37 => ?_)
        · skip
          have h_38 := s_le (rfl : z_15.toInt = _) (rfl : f.toInt = _) c_37
          exact sj_vret hx hb hr hlocks hS j1 ⟨hO_j1, (fun a b ha => ((hfr_j1 a b (by omega)).trans (up2_o _ _ (by omega))))⟩ hH (sj_Knil hK) (Nat.le_of_ble_eq_true rfl) (Nat.le_of_ble_eq_true rfl) dX12_cut_88
        · skip
          have h_39 := s_nle (rfl : z_15.toInt = _) (rfl : f.toInt = _) c_37
          refine lv_aload_n hx hb dX12_cut_60 rfl (lv_at hl 3 rfl) ?_
          refine h_getr (ci := 12) (C := RX12) (F := TX12) (N := 86) hx hb hts in12 hown hK hH (by decide) (rfl : kd 36 = 12) (by decide) rfl 32 (by decide) wd2 (fun _ h9 => h9) (by decide) rfl (t := 396) (hR 36 32 rfl) (by decide) dX12_cut_61 ?_
          refine lv_bipush (v := 60) hx hb dX12_cut_64 (by decide) ?_
          refine lv_iload_n hx hb dX12_cut_66 rfl (lv_at hl 4 rfl) ?_
          refine lv_imul hx hb dX12_cut_67 ?_
          obtain ⟨z_40, ez_40, hz_40⟩ := s_mul (show (60 : Int32).toInt = 60 from rfl) (rfl : x.toInt = _) (by omega) (by omega)
          refine sj_i ez_40 ?_
          refine lv_iload hx hb dX12_cut_68 (lv_at hl 0 rfl) ?_
          refine lv_iadd hx hb dX12_cut_70 ?_
          obtain ⟨z_41, ez_41, hz_41⟩ := s_add (rfl : z_40.toInt = _) (rfl : f.toInt = _) (by omega) (by omega)
          refine sj_i ez_41 ?_
          refine lv_aload_n hx hb dX12_cut_71 rfl (lv_at hl 3 rfl) ?_
          refine h_getr (ci := 12) (C := RX12) (F := TX12) (N := 86) hx hb hts in12 hown hK hH (by decide) (rfl : kd 36 = 12) (by decide) rfl 3 (by decide) wd0 (fun _ h9 => h9) (by decide) rfl (t := 380) (hR 36 3 rfl) (by decide) dX12_cut_72 ?_
          refine lv_iload hx hb dX12_cut_75 (lv_at hl 2 rfl) ?_
          refine lv_iload hx hb dX12_cut_77 (lv_at hl 0 rfl) ?_
          refine lv_iadd hx hb dX12_cut_79 ?_
          obtain ⟨z_42, ez_42, hz_42⟩ := s_add (rfl : r_1.toInt = _) (rfl : f.toInt = _) (by omega) (by omega)
          refine sj_i ez_42 ?_
          have bx_43 : (0 : Int) ≤ (i 380 (f.toInt + r_1.toInt).toNat).toInt ∧ (i 380 (f.toInt + r_1.toInt).toNat).toInt ≤ 65535 := hO 380 (f.toInt + r_1.toInt).toNat
          refine h_cald hx hb hK hH (by decide) (rfl : kd 380 = 14) (s_vin (N := 480) (rfl : z_42.toInt = _) (rfl : ln 380 = 480) (by omega) (by omega)) dX12_cut_80 ?_
          have ek_44 : z_42.toNatClampNeg = (f.toInt + r_1.toInt).toNat := (s_cl (show z_42.toInt = f.toInt + r_1.toInt by omega))
          refine sj_i (y := (i 380 (f.toInt + r_1.toInt).toNat)) (by rw [ek_44]; exact ((hfr_j1 380 (f.toInt + r_1.toInt).toNat (by omega)).trans (congrFun (up2_n _ _ (by decide)) _))) ?_
          obtain ⟨z_45, ez_45⟩ : ∃ z, vp_nar .char (i 380 (f.toInt + r_1.toInt).toNat) = z := ⟨_, rfl⟩
          have hz_45 : z_45.toInt = (i 380 (f.toInt + r_1.toInt).toNat).toInt := by rw [← ez_45, s_narc (rfl : (i 380 (f.toInt + r_1.toInt).toNat).toInt = _) (by omega) (by omega)] <;> exact (rfl : (i 380 (f.toInt + r_1.toInt).toNat).toInt = _)
          have hO_46 := okp hO_j1 (n := 396) (k := (f.toInt + 60 * x.toInt).toNat) (v := z_45) (show (0 : Int) ≤ (z_45 : Int32).toInt ∧ (z_45 : Int32).toInt ≤ 65535 from ⟨by omega, by omega⟩)
          refine h_cast hx hb hK hH hS (by decide) (rfl : kd 396 = 14) (s_vin (N := 9600) (rfl : z_41.toInt = _) (rfl : ln 396 = 9600) (by omega) (by omega)) dX12_cut_81 (fun H locs hH hS => ?_)
          rw [ez_45] at hH
          rw [s_cl (show z_41.toInt = f.toInt + 60 * x.toInt by omega)] at hH
          obtain ⟨z_47, ez_47, hz_47⟩ := s_add (rfl : f.toInt = _) (show (1 : Int32).toInt = 1 from rfl) (by omega) (by omega)
          refine lv_iinc (v := z_47) (lv' := [(6, .int z_47), (5, .int z_15), (4, .int r_1), (0, .ref (g 36)), (1, .int x), (2, .int y), (3, .int z)]) hx hb dX12_cut_82 hl (k := 0) rfl ez_47 (by decide) rfl (fun ls hl => ?_)
          refine lv_goto (tgt := 49) hx hb dX12_cut_85 (by decide) ?_
          exact ih_lp_35 z_47 _ _ _ ls (by omega) (by omega) (by omega) hO_46 (fun a b ha => ((up2_o _ _ (by omega)).trans (hfr_j1 a b (by omega)))) (lv_sub hl [0, 1, 2, 3, 4, 5, 6] rfl) hH hS
    have hl_48 : (0 : Int32).toInt = 0 := rfl
    exact lp_35 _ 0 _ _ _ ls (Nat.lt_succ_self _) (by omega) (by omega) hO_34 (fun a b ha => rfl) (lv_sub hl [0, 1, 2, 3, 4, 5, 6] rfl) hH hS
