/-- what is written of each definition is well formed -/
def DI (i : Nat → Nat → Int32) : Prop := ∀ d : Nat, (d : Int) < (i 36 41).toInt → prOK (lnL (i 403) (60 * (d : Int)) (60 * (d : Int) + (i 404 d).toInt))
theorem DI_fr {i u : Nat → Nat → Int32} (h : DI i) (e41 : u 36 41 = i 36 41) (e3 : u 403 = i 403) (e4 : u 404 = i 404) : DI u := by
  unfold DI at h ⊢
  rw [e41, e3, e4]; exact h
theorem DI_at {i : Nat → Nat → Int32} {x : Int} (h : DI i) (h0 : 0 ≤ x) (h1 : x < (i 36 41).toInt) : prOK (lnL (i 403) (60 * x) (60 * x + (i 404 x.toNat).toInt)) := by
  have h9 := h x.toNat (by omega)
  rw [show ((x.toNat : Nat) : Int) = x by omega] at h9
  exact h9
theorem DI_new {i u : Nat → Nat → Int32} {n : Int} (h : DI i) (h41 : (u 36 41).toInt = (i 36 41).toInt + 1) (h0 : 0 ≤ (i 36 41).toInt) (hn0 : 0 ≤ n) (hp : prOK (lnL (i 379) 0 n)) (h60 : n ≤ 60) (hs : (u 404 (i 36 41).toInt.toNat).toInt = n) (hi : ∀ k : Nat, (k : Int) < n → (u 403 ((60 * (i 36 41).toInt).toNat + k)).toInt = (i 379 k).toInt) (ho : ∀ k : Nat, ((k : Int) < 60 * (i 36 41).toInt ∨ 60 * (i 36 41).toInt + 60 ≤ (k : Int)) → u 403 k = i 403 k) (h4 : ∀ k : Nat, k ≠ (i 36 41).toInt.toNat → u 404 k = i 404 k) (hb : ∀ k, (0 : Int) ≤ (i 404 k).toInt ∧ (i 404 k).toInt ≤ 60) : DI u := by
  intro d hd
  by_cases hq : d = (i 36 41).toInt.toNat
  · subst hq
    rw [hs, show lnL (u 403) (60 * (((i 36 41).toInt.toNat : Nat) : Int)) (60 * (((i 36 41).toInt.toNat : Nat) : Int) + n) = lnL (i 379) 0 n from lnL_ext (by omega) (by omega) (by omega) (fun j hj => by
      have h9 := hi j (by omega)
      rw [show (60 * (((i 36 41).toInt.toNat : Nat) : Int) + (j : Int)).toNat = (60 * (i 36 41).toInt).toNat + j by omega, h9, show (0 + (j : Int)).toNat = j by omega])]
    exact hp
  · have h9 := h d (by omega)
    have hbd := hb d
    rw [h4 d hq, show lnL (u 403) (60 * (d : Int)) (60 * (d : Int) + (i 404 d).toInt) = lnL (i 403) (60 * (d : Int)) (60 * (d : Int) + (i 404 d).toInt) from lnL_ext (by omega) (by omega) rfl (fun j hj => by rw [ho _ (by omega)])]
    exact h9
theorem dX12_fitting_0 : decode cX12_fitting 0 = .ok (.iconst 0, 1) := by decide +kernel
theorem dX12_fitting_1 : decode cX12_fitting 1 = .ok (.istore_n 1, 1) := by decide +kernel
theorem dX12_fitting_2 : decode cX12_fitting 2 = .ok (.iconst 0, 1) := by decide +kernel
theorem dX12_fitting_3 : decode cX12_fitting 3 = .ok (.istore_n 2, 1) := by decide +kernel
theorem dX12_fitting_4 : decode cX12_fitting 4 = .ok (.iload_n 2, 1) := by decide +kernel
theorem dX12_fitting_5 : decode cX12_fitting 5 = .ok (.aload_n 0, 1) := by decide +kernel
theorem dX12_fitting_6 : decode cX12_fitting 6 = .ok (.getfield 308, 3) := by decide +kernel
theorem dX12_fitting_9 : decode cX12_fitting 9 = .ok (.if_icmp .ge 25, 3) := by decide +kernel
theorem dX12_fitting_34 : decode cX12_fitting 34 = .ok (.iload_n 1, 1) := by decide +kernel
theorem dX12_fitting_35 : decode cX12_fitting 35 = .ok (.ireturn, 1) := by decide +kernel
theorem dX12_fitting_12 : decode cX12_fitting 12 = .ok (.iload_n 1, 1) := by decide +kernel
theorem dX12_fitting_13 : decode cX12_fitting 13 = .ok (.aload_n 0, 1) := by decide +kernel
theorem dX12_fitting_14 : decode cX12_fitting 14 = .ok (.iload_n 2, 1) := by decide +kernel
theorem dX12_fitting_15 : decode cX12_fitting 15 = .ok (.invokevirtual 360, 3) := by decide +kernel
theorem dX12_fitting_18 : decode cX12_fitting 18 = .ok (.ifCond .eq 7, 3) := by decide +kernel
theorem dX12_fitting_25 : decode cX12_fitting 25 = .ok (.iconst 0, 1) := by decide +kernel
theorem dX12_fitting_26 : decode cX12_fitting 26 = .ok (.iadd, 1) := by decide +kernel
theorem dX12_fitting_27 : decode cX12_fitting 27 = .ok (.istore_n 1, 1) := by decide +kernel
theorem dX12_fitting_28 : decode cX12_fitting 28 = .ok (.iinc 2 1, 3) := by decide +kernel
theorem dX12_fitting_31 : decode cX12_fitting 31 = .ok (.goto (-27), 3) := by decide +kernel
theorem dX12_fitting_21 : decode cX12_fitting 21 = .ok (.iconst 1, 1) := by decide +kernel
theorem dX12_fitting_22 : decode cX12_fitting 22 = .ok (.goto 4, 3) := by decide +kernel
theorem dX12_bound_0 : decode cX12_bound 0 = .ok (.aload_n 0, 1) := by decide +kernel
theorem dX12_bound_1 : decode cX12_bound 1 = .ok (.invokevirtual 363, 3) := by decide +kernel
theorem dX12_bound_4 : decode cX12_bound 4 = .ok (.istore_n 1, 1) := by decide +kernel
theorem dX12_bound_5 : decode cX12_bound 5 = .ok (.iload_n 1, 1) := by decide +kernel
theorem dX12_bound_6 : decode cX12_bound 6 = .ok (.iconst 1, 1) := by decide +kernel
theorem dX12_bound_7 : decode cX12_bound 7 = .ok (.if_icmp .eq 14, 3) := by decide +kernel
theorem dX12_bound_21 : decode cX12_bound 21 = .ok (.iconst 0, 1) := by decide +kernel
theorem dX12_bound_22 : decode cX12_bound 22 = .ok (.istore_n 2, 1) := by decide +kernel
theorem dX12_bound_23 : decode cX12_bound 23 = .ok (.iload_n 2, 1) := by decide +kernel
theorem dX12_bound_24 : decode cX12_bound 24 = .ok (.aload_n 0, 1) := by decide +kernel
theorem dX12_bound_25 : decode cX12_bound 25 = .ok (.getfield 308, 3) := by decide +kernel
theorem dX12_bound_28 : decode cX12_bound 28 = .ok (.if_icmp .ge 19, 3) := by decide +kernel
theorem dX12_bound_47 : decode cX12_bound 47 = .ok (.iconst (-1), 1) := by decide +kernel
theorem dX12_bound_48 : decode cX12_bound 48 = .ok (.ireturn, 1) := by decide +kernel
theorem dX12_bound_31 : decode cX12_bound 31 = .ok (.aload_n 0, 1) := by decide +kernel
theorem dX12_bound_32 : decode cX12_bound 32 = .ok (.iload_n 2, 1) := by decide +kernel
theorem dX12_bound_33 : decode cX12_bound 33 = .ok (.invokevirtual 360, 3) := by decide +kernel
theorem dX12_bound_36 : decode cX12_bound 36 = .ok (.ifCond .eq 5, 3) := by decide +kernel
theorem dX12_bound_41 : decode cX12_bound 41 = .ok (.iinc 2 1, 3) := by decide +kernel
theorem dX12_bound_44 : decode cX12_bound 44 = .ok (.goto (-21), 3) := by decide +kernel
theorem dX12_bound_39 : decode cX12_bound 39 = .ok (.iload_n 2, 1) := by decide +kernel
theorem dX12_bound_40 : decode cX12_bound 40 = .ok (.ireturn, 1) := by decide +kernel
theorem dX12_bound_10 : decode cX12_bound 10 = .ok (.iload_n 1, 1) := by decide +kernel
theorem dX12_bound_11 : decode cX12_bound 11 = .ok (.ifCond .ne 7, 3) := by decide +kernel
theorem dX12_bound_18 : decode cX12_bound 18 = .ok (.bipush (-2), 2) := by decide +kernel
theorem dX12_bound_20 : decode cX12_bound 20 = .ok (.ireturn, 1) := by decide +kernel
theorem dX12_bound_14 : decode cX12_bound 14 = .ok (.iconst (-1), 1) := by decide +kernel
theorem dX12_bound_15 : decode cX12_bound 15 = .ok (.goto 5, 3) := by decide +kernel
theorem dX12_define_0 : decode cX12_define 0 = .ok (.aload_n 0, 1) := by decide +kernel
theorem dX12_define_1 : decode cX12_define 1 = .ok (.invokevirtual 174, 3) := by decide +kernel
theorem dX12_define_4 : decode cX12_define 4 = .ok (.ifCond .eq 5, 3) := by decide +kernel
theorem dX12_define_9 : decode cX12_define 9 = .ok (.aload_n 0, 1) := by decide +kernel
theorem dX12_define_10 : decode cX12_define 10 = .ok (.aload_n 0, 1) := by decide +kernel
theorem dX12_define_11 : decode cX12_define 11 = .ok (.getfield 12, 3) := by decide +kernel
theorem dX12_define_14 : decode cX12_define 14 = .ok (.iconst 0, 1) := by decide +kernel
theorem dX12_define_15 : decode cX12_define 15 = .ok (.aload_n 0, 1) := by decide +kernel
theorem dX12_define_16 : decode cX12_define 16 = .ok (.getfield 7, 3) := by decide +kernel
theorem dX12_define_19 : decode cX12_define 19 = .ok (.invokevirtual 304, 3) := by decide +kernel
theorem dX12_define_22 : decode cX12_define 22 = .ok (.ifCond .eq 17, 3) := by decide +kernel
theorem dX12_define_39 : decode cX12_define 39 = .ok (.iconst 0, 1) := by decide +kernel
theorem dX12_define_40 : decode cX12_define 40 = .ok (.istore_n 2, 1) := by decide +kernel
theorem dX12_define_41 : decode cX12_define 41 = .ok (.aload_n 0, 1) := by decide +kernel
theorem dX12_define_42 : decode cX12_define 42 = .ok (.getfield 7, 3) := by decide +kernel
theorem dX12_define_45 : decode cX12_define 45 = .ok (.istore_n 3, 1) := by decide +kernel
theorem dX12_define_46 : decode cX12_define 46 = .ok (.aload_n 0, 1) := by decide +kernel
theorem dX12_define_47 : decode cX12_define 47 = .ok (.iconst 0, 1) := by decide +kernel
theorem dX12_define_48 : decode cX12_define 48 = .ok (.putfield 7, 3) := by decide +kernel
theorem dX12_define_51 : decode cX12_define 51 = .ok (.aload_n 0, 1) := by decide +kernel
theorem dX12_define_52 : decode cX12_define 52 = .ok (.iload_n 2, 1) := by decide +kernel
theorem dX12_define_53 : decode cX12_define 53 = .ok (.ifCond .ne 7, 3) := by decide +kernel
theorem dX12_define_56 : decode cX12_define 56 = .ok (.iconst 2, 1) := by decide +kernel
theorem dX12_define_57 : decode cX12_define 57 = .ok (.goto 17, 3) := by decide +kernel
theorem dX12_define_74 : decode cX12_define 74 = .ok (.invokevirtual 171, 3) := by decide +kernel
theorem dX12_define_77 : decode cX12_define 77 = .ok (.ifCond .eq 5, 3) := by decide +kernel
theorem dX12_define_80 : decode cX12_define 80 = .ok (.iconst 0, 1) := by decide +kernel
theorem dX12_define_81 : decode cX12_define 81 = .ok (.ireturn, 1) := by decide +kernel
theorem dX12_define_25 : decode cX12_define 25 = .ok (.iload_n 1, 1) := by decide +kernel
theorem dX12_define_26 : decode cX12_define 26 = .ok (.ifCond .lt 13, 3) := by decide +kernel
theorem dX12_define_29 : decode cX12_define 29 = .ok (.iload_n 1, 1) := by decide +kernel
theorem dX12_define_30 : decode cX12_define 30 = .ok (.bipush 8, 2) := by decide +kernel
theorem dX12_define_32 : decode cX12_define 32 = .ok (.if_icmp .ge 7, 3) := by decide +kernel
theorem dX12_define_35 : decode cX12_define 35 = .ok (.iconst 1, 1) := by decide +kernel
theorem dX12_define_36 : decode cX12_define 36 = .ok (.goto 4, 3) := by decide +kernel
theorem dX12_define_60 : decode cX12_define 60 = .ok (.aload_n 0, 1) := by decide +kernel
theorem dX12_define_61 : decode cX12_define 61 = .ok (.getfield 308, 3) := by decide +kernel
theorem dX12_define_64 : decode cX12_define 64 = .ok (.bipush 12, 2) := by decide +kernel
theorem dX12_define_66 : decode cX12_define 66 = .ok (.if_icmp .ne 7, 3) := by decide +kernel
theorem dX12_define_73 : decode cX12_define 73 = .ok (.iconst 0, 1) := by decide +kernel
theorem dX12_define_82 : decode cX12_define 82 = .ok (.iconst 0, 1) := by decide +kernel
theorem dX12_define_83 : decode cX12_define 83 = .ok (.istore 4, 2) := by decide +kernel
theorem dX12_define_85 : decode cX12_define 85 = .ok (.iload 4, 2) := by decide +kernel
theorem dX12_define_87 : decode cX12_define 87 = .ok (.iload_n 3, 1) := by decide +kernel
theorem dX12_define_88 : decode cX12_define 88 = .ok (.if_icmp .ge 31, 3) := by decide +kernel
theorem dX12_define_119 : decode cX12_define 119 = .ok (.aload_n 0, 1) := by decide +kernel
theorem dX12_define_120 : decode cX12_define 120 = .ok (.getfield 314, 3) := by decide +kernel
theorem dX12_define_123 : decode cX12_define 123 = .ok (.aload_n 0, 1) := by decide +kernel
theorem dX12_define_124 : decode cX12_define 124 = .ok (.getfield 308, 3) := by decide +kernel
theorem dX12_define_127 : decode cX12_define 127 = .ok (.iload_n 3, 1) := by decide +kernel
theorem dX12_define_128 : decode cX12_define 128 = .ok (.iastore, 1) := by decide +kernel
theorem dX12_define_129 : decode cX12_define 129 = .ok (.aload_n 0, 1) := by decide +kernel
theorem dX12_define_130 : decode cX12_define 130 = .ok (.getfield 317, 3) := by decide +kernel
theorem dX12_define_133 : decode cX12_define 133 = .ok (.aload_n 0, 1) := by decide +kernel
theorem dX12_define_134 : decode cX12_define 134 = .ok (.getfield 308, 3) := by decide +kernel
theorem dX12_define_137 : decode cX12_define 137 = .ok (.iload_n 1, 1) := by decide +kernel
theorem dX12_define_138 : decode cX12_define 138 = .ok (.iastore, 1) := by decide +kernel
theorem dX12_define_139 : decode cX12_define 139 = .ok (.aload_n 0, 1) := by decide +kernel
theorem dX12_define_140 : decode cX12_define 140 = .ok (.dup, 1) := by decide +kernel
theorem dX12_define_141 : decode cX12_define 141 = .ok (.getfield 308, 3) := by decide +kernel
theorem dX12_define_144 : decode cX12_define 144 = .ok (.iconst 1, 1) := by decide +kernel
theorem dX12_define_145 : decode cX12_define 145 = .ok (.iadd, 1) := by decide +kernel
theorem dX12_define_146 : decode cX12_define 146 = .ok (.putfield 308, 3) := by decide +kernel
theorem dX12_define_149 : decode cX12_define 149 = .ok (.aload_n 0, 1) := by decide +kernel
theorem dX12_define_150 : decode cX12_define 150 = .ok (.getfield 308, 3) := by decide +kernel
theorem dX12_define_153 : decode cX12_define 153 = .ok (.iconst 1, 1) := by decide +kernel
theorem dX12_define_154 : decode cX12_define 154 = .ok (.isub, 1) := by decide +kernel
theorem dX12_define_155 : decode cX12_define 155 = .ok (.ireturn, 1) := by decide +kernel
theorem dX12_define_91 : decode cX12_define 91 = .ok (.aload_n 0, 1) := by decide +kernel
theorem dX12_define_92 : decode cX12_define 92 = .ok (.getfield 311, 3) := by decide +kernel
theorem dX12_define_95 : decode cX12_define 95 = .ok (.bipush 60, 2) := by decide +kernel
theorem dX12_define_97 : decode cX12_define 97 = .ok (.aload_n 0, 1) := by decide +kernel
theorem dX12_define_98 : decode cX12_define 98 = .ok (.getfield 308, 3) := by decide +kernel
theorem dX12_define_101 : decode cX12_define 101 = .ok (.imul, 1) := by decide +kernel
theorem dX12_define_102 : decode cX12_define 102 = .ok (.iload 4, 2) := by decide +kernel
theorem dX12_define_104 : decode cX12_define 104 = .ok (.iadd, 1) := by decide +kernel
theorem dX12_define_105 : decode cX12_define 105 = .ok (.aload_n 0, 1) := by decide +kernel
theorem dX12_define_106 : decode cX12_define 106 = .ok (.getfield 12, 3) := by decide +kernel
theorem dX12_define_109 : decode cX12_define 109 = .ok (.iload 4, 2) := by decide +kernel
theorem dX12_define_111 : decode cX12_define 111 = .ok (.caload, 1) := by decide +kernel
theorem dX12_define_112 : decode cX12_define 112 = .ok (.castore, 1) := by decide +kernel
theorem dX12_define_113 : decode cX12_define 113 = .ok (.iinc 4 1, 3) := by decide +kernel
theorem dX12_define_116 : decode cX12_define 116 = .ok (.goto (-31), 3) := by decide +kernel
theorem dX12_define_69 : decode cX12_define 69 = .ok (.iconst 3, 1) := by decide +kernel
theorem dX12_define_70 : decode cX12_define 70 = .ok (.goto 4, 3) := by decide +kernel
theorem gw_X12_fits : wsX12_fits.all goodWord = true := by decide +kernel
theorem gX12_fitting_X12_fits : GoodIn wsX12_fitting (wsV RX12 360 RX12 yX12_fits wsX12_fits) := goodIn_app (goodIn_sub (List.forall_mem_cons.mpr ⟨(List.mem_cons_of_mem _ (List.mem_append_left _ (List.mem_append_left _ lm1))), List.forall_mem_cons.mpr ⟨(List.mem_cons_of_mem _ (List.mem_append_left _ (List.mem_append_left _ lm2))), List.forall_mem_cons.mpr ⟨(List.mem_cons_of_mem _ (List.mem_append_left _ (List.mem_append_left _ lm3))), List.forall_mem_cons.mpr ⟨(List.mem_cons_of_mem _ (List.mem_append_left _ (List.mem_append_left _ lm4))), (fun _ h => absurd h List.not_mem_nil)⟩⟩⟩⟩) (by decide +kernel)) (goodIn_sub (by unfold wsX12_fits; exact List.forall_mem_cons.mpr ⟨(List.mem_cons_of_mem _ (List.mem_append_left _ (List.mem_append_left _ lm5))), List.forall_mem_append.mpr ⟨List.forall_mem_append.mpr ⟨List.forall_mem_cons.mpr ⟨(List.mem_cons_of_mem _ (List.mem_append_left _ (List.mem_append_left _ lm6))), List.forall_mem_cons.mpr ⟨(List.mem_cons_of_mem _ (List.mem_append_left _ (List.mem_append_left _ lm7))), List.forall_mem_cons.mpr ⟨(List.mem_cons_of_mem _ (List.mem_append_left _ (List.mem_append_left _ lm8))), List.forall_mem_cons.mpr ⟨(List.mem_cons_of_mem _ (List.mem_append_left _ (List.mem_append_left _ lm9))), List.forall_mem_cons.mpr ⟨(List.mem_cons_of_mem _ (List.mem_append_left _ (List.mem_append_left _ lm10))), List.forall_mem_cons.mpr ⟨(List.mem_cons_of_mem _ (List.mem_append_left _ (List.mem_append_left _ lm11))), List.forall_mem_cons.mpr ⟨(List.mem_cons_of_mem _ (List.mem_append_left _ (List.mem_append_left _ lm12))), List.forall_mem_cons.mpr ⟨(List.mem_cons_of_mem _ (List.mem_append_left _ (List.mem_append_left _ lm13))), List.forall_mem_cons.mpr ⟨(List.mem_cons_of_mem _ (List.mem_append_left _ (List.mem_append_left _ lm14))), List.forall_mem_cons.mpr ⟨(List.mem_cons_of_mem _ (List.mem_append_left _ (List.mem_append_left _ lm15))), List.forall_mem_cons.mpr ⟨(List.mem_cons_of_mem _ (List.mem_append_left _ (List.mem_append_left _ lm16))), List.forall_mem_cons.mpr ⟨(List.mem_cons_of_mem _ (List.mem_append_left _ (List.mem_append_left _ lm17))), List.forall_mem_cons.mpr ⟨(List.mem_cons_of_mem _ (List.mem_append_left _ (List.mem_append_left _ lm18))), List.forall_mem_cons.mpr ⟨(List.mem_cons_of_mem _ (List.mem_append_left _ (List.mem_append_left _ lm19))), List.forall_mem_cons.mpr ⟨(List.mem_cons_of_mem _ (List.mem_append_left _ (List.mem_append_left _ lm4))), List.forall_mem_cons.mpr ⟨(List.mem_cons_of_mem _ (List.mem_append_left _ (List.mem_append_left _ lm20))), List.forall_mem_cons.mpr ⟨(List.mem_cons_of_mem _ (List.mem_append_left _ (List.mem_append_left _ lm21))), List.forall_mem_cons.mpr ⟨(List.mem_cons_of_mem _ (List.mem_append_left _ (List.mem_append_left _ lm22))), List.forall_mem_cons.mpr ⟨(List.mem_cons_of_mem _ (List.mem_append_left _ (List.mem_append_left _ lm23))), List.forall_mem_cons.mpr ⟨(List.mem_cons_of_mem _ (List.mem_append_left _ (List.mem_append_right _ (List.mem_append_left _ lm0)))), List.forall_mem_cons.mpr ⟨(List.mem_cons_of_mem _ (List.mem_append_left _ (List.mem_append_right _ (List.mem_append_left _ lm1)))), List.forall_mem_cons.mpr ⟨(List.mem_cons_of_mem _ (List.mem_append_left _ (List.mem_append_right _ (List.mem_append_left _ lm2)))), List.forall_mem_cons.mpr ⟨(List.mem_cons_of_mem _ (List.mem_append_left _ (List.mem_append_right _ (List.mem_append_left _ lm3)))), List.forall_mem_cons.mpr ⟨(List.mem_cons_of_mem _ (List.mem_append_left _ (List.mem_append_right _ (List.mem_append_left _ lm4)))), (fun _ h => absurd h List.not_mem_nil)⟩⟩⟩⟩⟩⟩⟩⟩⟩⟩⟩⟩⟩⟩⟩⟩⟩⟩⟩⟩⟩⟩⟩⟩, List.forall_mem_append.mpr ⟨List.forall_mem_cons.mpr ⟨(List.mem_cons_of_mem _ (List.mem_append_left _ (List.mem_append_right _ (List.mem_append_left _ lm5)))), List.forall_mem_cons.mpr ⟨(List.mem_cons_of_mem _ (List.mem_append_left _ (List.mem_append_right _ (List.mem_append_left _ lm6)))), List.forall_mem_cons.mpr ⟨(List.mem_cons_of_mem _ (List.mem_append_left _ (List.mem_append_right _ (List.mem_append_left _ lm7)))), List.forall_mem_cons.mpr ⟨(List.mem_cons_of_mem _ (List.mem_append_left _ (List.mem_append_right _ (List.mem_append_left _ lm8)))), List.forall_mem_cons.mpr ⟨(List.mem_cons_of_mem _ (List.mem_append_left _ (List.mem_append_right _ (List.mem_append_left _ lm9)))), List.forall_mem_cons.mpr ⟨(List.mem_cons_of_mem _ (List.mem_append_left _ (List.mem_append_right _ (List.mem_append_left _ lm10)))), List.forall_mem_cons.mpr ⟨(List.mem_cons_of_mem _ (List.mem_append_left _ (List.mem_append_right _ (List.mem_append_left _ lm11)))), List.forall_mem_cons.mpr ⟨(List.mem_cons_of_mem _ (List.mem_append_left _ (List.mem_append_right _ (List.mem_append_left _ lm12)))), List.forall_mem_cons.mpr ⟨(List.mem_cons_of_mem _ (List.mem_append_left _ (List.mem_append_right _ (List.mem_append_left _ lm13)))), List.forall_mem_cons.mpr ⟨(List.mem_cons_of_mem _ (List.mem_append_left _ (List.mem_append_right _ (List.mem_append_left _ lm14)))), List.forall_mem_cons.mpr ⟨(List.mem_cons_of_mem _ (List.mem_append_left _ (List.mem_append_right _ (List.mem_append_left _ lm15)))), List.forall_mem_cons.mpr ⟨(List.mem_cons_of_mem _ (List.mem_append_left _ (List.mem_append_right _ (List.mem_append_left _ lm16)))), List.forall_mem_cons.mpr ⟨(List.mem_cons_of_mem _ (List.mem_append_left _ (List.mem_append_right _ (List.mem_append_left _ lm17)))), List.forall_mem_cons.mpr ⟨(List.mem_cons_of_mem _ (List.mem_append_left _ (List.mem_append_right _ (List.mem_append_left _ lm18)))), List.forall_mem_cons.mpr ⟨(List.mem_cons_of_mem _ (List.mem_append_left _ (List.mem_append_right _ (List.mem_append_left _ lm19)))), List.forall_mem_cons.mpr ⟨(List.mem_cons_of_mem _ (List.mem_append_left _ (List.mem_append_right _ (List.mem_append_left _ lm20)))), List.forall_mem_cons.mpr ⟨(List.mem_cons_of_mem _ (List.mem_append_left _ (List.mem_append_right _ (List.mem_append_left _ lm21)))), List.forall_mem_cons.mpr ⟨(List.mem_cons_of_mem _ (List.mem_append_left _ (List.mem_append_right _ (List.mem_append_left _ lm22)))), List.forall_mem_cons.mpr ⟨(List.mem_cons_of_mem _ (List.mem_append_left _ (List.mem_append_right _ (List.mem_append_left _ lm23)))), List.forall_mem_cons.mpr ⟨(List.mem_cons_of_mem _ (List.mem_append_left _ (List.mem_append_right _ (List.mem_append_right _ (List.mem_append_left _ lm0))))), List.forall_mem_cons.mpr ⟨(List.mem_cons_of_mem _ (List.mem_append_left _ (List.mem_append_right _ (List.mem_append_right _ (List.mem_append_left _ lm1))))), List.forall_mem_cons.mpr ⟨(List.mem_cons_of_mem _ (List.mem_append_left _ (List.mem_append_right _ (List.mem_append_right _ (List.mem_append_left _ lm2))))), List.forall_mem_cons.mpr ⟨(List.mem_cons_of_mem _ (List.mem_append_left _ (List.mem_append_right _ (List.mem_append_right _ (List.mem_append_left _ lm3))))), List.forall_mem_cons.mpr ⟨(List.mem_cons_of_mem _ (List.mem_append_left _ (List.mem_append_right _ (List.mem_append_right _ (List.mem_append_left _ lm4))))), (fun _ h => absurd h List.not_mem_nil)⟩⟩⟩⟩⟩⟩⟩⟩⟩⟩⟩⟩⟩⟩⟩⟩⟩⟩⟩⟩⟩⟩⟩⟩, List.forall_mem_append.mpr ⟨List.forall_mem_cons.mpr ⟨(List.mem_cons_of_mem _ (List.mem_append_left _ (List.mem_append_right _ (List.mem_append_right _ (List.mem_append_left _ lm5))))), List.forall_mem_cons.mpr ⟨(List.mem_cons_of_mem _ (List.mem_append_left _ (List.mem_append_right _ (List.mem_append_right _ (List.mem_append_left _ lm6))))), List.forall_mem_cons.mpr ⟨(List.mem_cons_of_mem _ (List.mem_append_left _ (List.mem_append_right _ (List.mem_append_right _ (List.mem_append_left _ lm7))))), List.forall_mem_cons.mpr ⟨(List.mem_cons_of_mem _ (List.mem_append_left _ (List.mem_append_right _ (List.mem_append_right _ (List.mem_append_left _ lm8))))), List.forall_mem_cons.mpr ⟨(List.mem_cons_of_mem _ (List.mem_append_left _ (List.mem_append_right _ (List.mem_append_right _ (List.mem_append_left _ lm9))))), List.forall_mem_cons.mpr ⟨(List.mem_cons_of_mem _ (List.mem_append_left _ (List.mem_append_right _ (List.mem_append_right _ (List.mem_append_left _ lm10))))), List.forall_mem_cons.mpr ⟨(List.mem_cons_of_mem _ (List.mem_append_left _ (List.mem_append_right _ (List.mem_append_right _ (List.mem_append_left _ lm11))))), List.forall_mem_cons.mpr ⟨(List.mem_cons_of_mem _ (List.mem_append_left _ (List.mem_append_right _ (List.mem_append_right _ (List.mem_append_left _ lm12))))), List.forall_mem_cons.mpr ⟨(List.mem_cons_of_mem _ (List.mem_append_left _ (List.mem_append_right _ (List.mem_append_right _ (List.mem_append_left _ lm13))))), List.forall_mem_cons.mpr ⟨(List.mem_cons_of_mem _ (List.mem_append_left _ (List.mem_append_right _ (List.mem_append_right _ (List.mem_append_left _ lm14))))), List.forall_mem_cons.mpr ⟨(List.mem_cons_of_mem _ (List.mem_append_left _ (List.mem_append_right _ (List.mem_append_right _ (List.mem_append_left _ lm15))))), List.forall_mem_cons.mpr ⟨(List.mem_cons_of_mem _ (List.mem_append_left _ (List.mem_append_right _ (List.mem_append_right _ (List.mem_append_left _ lm16))))), List.forall_mem_cons.mpr ⟨(List.mem_cons_of_mem _ (List.mem_append_left _ (List.mem_append_right _ (List.mem_append_right _ (List.mem_append_left _ lm17))))), List.forall_mem_cons.mpr ⟨(List.mem_cons_of_mem _ (List.mem_append_left _ (List.mem_append_right _ (List.mem_append_right _ (List.mem_append_left _ lm18))))), List.forall_mem_cons.mpr ⟨(List.mem_cons_of_mem _ (List.mem_append_left _ (List.mem_append_right _ (List.mem_append_right _ (List.mem_append_left _ lm19))))), List.forall_mem_cons.mpr ⟨(List.mem_cons_of_mem _ (List.mem_append_left _ (List.mem_append_right _ (List.mem_append_right _ (List.mem_append_left _ lm20))))), List.forall_mem_cons.mpr ⟨(List.mem_cons_of_mem _ (List.mem_append_left _ (List.mem_append_right _ (List.mem_append_right _ (List.mem_append_left _ lm21))))), List.forall_mem_cons.mpr ⟨(List.mem_cons_of_mem _ (List.mem_append_left _ (List.mem_append_right _ (List.mem_append_right _ (List.mem_append_left _ lm22))))), List.forall_mem_cons.mpr ⟨(List.mem_cons_of_mem _ (List.mem_append_left _ (List.mem_append_right _ (List.mem_append_right _ (List.mem_append_left _ lm23))))), List.forall_mem_cons.mpr ⟨(List.mem_cons_of_mem _ (List.mem_append_left _ (List.mem_append_right _ (List.mem_append_right _ (List.mem_append_right _ lm0))))), List.forall_mem_cons.mpr ⟨(List.mem_cons_of_mem _ (List.mem_append_left _ (List.mem_append_right _ (List.mem_append_right _ (List.mem_append_right _ lm1))))), List.forall_mem_cons.mpr ⟨(List.mem_cons_of_mem _ (List.mem_append_left _ (List.mem_append_right _ (List.mem_append_right _ (List.mem_append_right _ lm2))))), List.forall_mem_cons.mpr ⟨(List.mem_cons_of_mem _ (List.mem_append_left _ (List.mem_append_right _ (List.mem_append_right _ (List.mem_append_right _ lm3))))), List.forall_mem_cons.mpr ⟨(List.mem_cons_of_mem _ (List.mem_append_left _ (List.mem_append_right _ (List.mem_append_right _ (List.mem_append_right _ lm4))))), (fun _ h => absurd h List.not_mem_nil)⟩⟩⟩⟩⟩⟩⟩⟩⟩⟩⟩⟩⟩⟩⟩⟩⟩⟩⟩⟩⟩⟩⟩⟩, List.forall_mem_cons.mpr ⟨(List.mem_cons_of_mem _ (List.mem_append_left _ (List.mem_append_right _ (List.mem_append_right _ (List.mem_append_right _ lm5))))), List.forall_mem_cons.mpr ⟨(List.mem_cons_of_mem _ (List.mem_append_left _ (List.mem_append_right _ (List.mem_append_right _ (List.mem_append_right _ lm6))))), List.forall_mem_cons.mpr ⟨(List.mem_cons_of_mem _ (List.mem_append_left _ (List.mem_append_right _ (List.mem_append_right _ (List.mem_append_right _ lm7))))), List.forall_mem_cons.mpr ⟨(List.mem_cons_of_mem _ (List.mem_append_left _ (List.mem_append_right _ (List.mem_append_right _ (List.mem_append_right _ lm8))))), List.forall_mem_cons.mpr ⟨(List.mem_cons_of_mem _ (List.mem_append_left _ (List.mem_append_right _ (List.mem_append_right _ (List.mem_append_right _ lm9))))), List.forall_mem_cons.mpr ⟨(List.mem_cons_of_mem _ (List.mem_append_left _ (List.mem_append_right _ (List.mem_append_right _ (List.mem_append_right _ lm10))))), List.forall_mem_cons.mpr ⟨(List.mem_cons_of_mem _ (List.mem_append_left _ (List.mem_append_right _ (List.mem_append_right _ (List.mem_append_right _ lm11))))), List.forall_mem_cons.mpr ⟨(List.mem_cons_of_mem _ (List.mem_append_left _ (List.mem_append_right _ (List.mem_append_right _ (List.mem_append_right _ lm12))))), List.forall_mem_cons.mpr ⟨(List.mem_cons_of_mem _ (List.mem_append_left _ (List.mem_append_right _ (List.mem_append_right _ (List.mem_append_right _ lm13))))), List.forall_mem_cons.mpr ⟨(List.mem_cons_of_mem _ (List.mem_append_left _ (List.mem_append_right _ (List.mem_append_right _ (List.mem_append_right _ lm14))))), List.forall_mem_cons.mpr ⟨(List.mem_cons_of_mem _ (List.mem_append_left _ (List.mem_append_right _ (List.mem_append_right _ (List.mem_append_right _ lm15))))), List.forall_mem_cons.mpr ⟨(List.mem_cons_of_mem _ (List.mem_append_left _ (List.mem_append_right _ (List.mem_append_right _ (List.mem_append_right _ lm16))))), (fun _ h => absurd h List.not_mem_nil)⟩⟩⟩⟩⟩⟩⟩⟩⟩⟩⟩⟩⟩⟩⟩, (fun _ h => (List.mem_cons_of_mem _ (List.mem_append_right _ h)))⟩⟩) gw_X12_fits)
theorem gw_X12_fitting : wsX12_fitting.all goodWord = true := by decide +kernel
theorem gX12_bound_X12_fitting : GoodIn wsX12_bound (wsV RX12 363 RX12 yX12_fitting wsX12_fitting) := goodIn_app (goodIn_sub (List.forall_mem_cons.mpr ⟨(List.mem_cons_of_mem _ (List.mem_append_left _ (List.mem_append_left _ lm1))), List.forall_mem_cons.mpr ⟨(List.mem_cons_of_mem _ (List.mem_append_left _ (List.mem_append_left _ lm2))), List.forall_mem_cons.mpr ⟨(List.mem_cons_of_mem _ (List.mem_append_left _ (List.mem_append_left _ lm3))), List.forall_mem_cons.mpr ⟨(List.mem_cons_of_mem _ (List.mem_append_left _ (List.mem_append_left _ lm4))), (fun _ h => absurd h List.not_mem_nil)⟩⟩⟩⟩) (by decide +kernel)) (goodIn_sub (by unfold wsX12_fitting; exact List.forall_mem_cons.mpr ⟨(List.mem_cons_of_mem _ (List.mem_append_left _ (List.mem_append_left _ lm5))), List.forall_mem_append.mpr ⟨List.forall_mem_append.mpr ⟨List.forall_mem_cons.mpr ⟨(List.mem_cons_of_mem _ (List.mem_append_left _ (List.mem_append_left _ lm0))), List.forall_mem_cons.mpr ⟨(List.mem_cons_of_mem _ (List.mem_append_left _ (List.mem_append_left _ lm6))), List.forall_mem_cons.mpr ⟨(List.mem_cons_of_mem _ (List.mem_append_left _ (List.mem_append_left _ lm7))), List.forall_mem_cons.mpr ⟨(List.mem_cons_of_mem _ (List.mem_append_left _ (List.mem_append_left _ lm8))), List.forall_mem_cons.mpr ⟨(List.mem_cons_of_mem _ (List.mem_append_left _ (List.mem_append_left _ lm4))), List.forall_mem_cons.mpr ⟨(List.mem_cons_of_mem _ (List.mem_append_left _ (List.mem_append_left _ lm9))), List.forall_mem_cons.mpr ⟨(List.mem_cons_of_mem _ (List.mem_append_left _ (List.mem_append_left _ lm10))), List.forall_mem_cons.mpr ⟨(List.mem_cons_of_mem _ (List.mem_append_left _ (List.mem_append_left _ lm11))), List.forall_mem_cons.mpr ⟨(List.mem_cons_of_mem _ (List.mem_append_left _ (List.mem_append_left _ lm12))), List.forall_mem_cons.mpr ⟨(List.mem_cons_of_mem _ (List.mem_append_left _ (List.mem_append_left _ lm13))), List.forall_mem_cons.mpr ⟨(List.mem_cons_of_mem _ (List.mem_append_left _ (List.mem_append_left _ lm14))), List.forall_mem_cons.mpr ⟨(List.mem_cons_of_mem _ (List.mem_append_left _ (List.mem_append_left _ lm15))), List.forall_mem_cons.mpr ⟨(List.mem_cons_of_mem _ (List.mem_append_left _ (List.mem_append_left _ lm16))), List.forall_mem_cons.mpr ⟨(List.mem_cons_of_mem _ (List.mem_append_left _ (List.mem_append_left _ lm17))), List.forall_mem_cons.mpr ⟨(List.mem_cons_of_mem _ (List.mem_append_left _ (List.mem_append_left _ lm18))), List.forall_mem_cons.mpr ⟨(List.mem_cons_of_mem _ (List.mem_append_left _ (List.mem_append_left _ lm19))), List.forall_mem_cons.mpr ⟨(List.mem_cons_of_mem _ (List.mem_append_left _ (List.mem_append_left _ lm20))), List.forall_mem_cons.mpr ⟨(List.mem_cons_of_mem _ (List.mem_append_left _ (List.mem_append_left _ lm21))), List.forall_mem_cons.mpr ⟨(List.mem_cons_of_mem _ (List.mem_append_left _ (List.mem_append_left _ lm22))), List.forall_mem_cons.mpr ⟨(List.mem_cons_of_mem _ (List.mem_append_left _ (List.mem_append_left _ lm23))), List.forall_mem_cons.mpr ⟨(List.mem_cons_of_mem _ (List.mem_append_left _ (List.mem_append_right _ (List.mem_append_left _ lm0)))), List.forall_mem_cons.mpr ⟨(List.mem_cons_of_mem _ (List.mem_append_left _ (List.mem_append_right _ (List.mem_append_left _ lm1)))), List.forall_mem_cons.mpr ⟨(List.mem_cons_of_mem _ (List.mem_append_left _ (List.mem_append_right _ (List.mem_append_left _ lm2)))), List.forall_mem_cons.mpr ⟨(List.mem_cons_of_mem _ (List.mem_append_left _ (List.mem_append_right _ (List.mem_append_left _ lm3)))), (fun _ h => absurd h List.not_mem_nil)⟩⟩⟩⟩⟩⟩⟩⟩⟩⟩⟩⟩⟩⟩⟩⟩⟩⟩⟩⟩⟩⟩⟩⟩, List.forall_mem_append.mpr ⟨List.forall_mem_cons.mpr ⟨(List.mem_cons_of_mem _ (List.mem_append_left _ (List.mem_append_right _ (List.mem_append_left _ lm4)))), List.forall_mem_cons.mpr ⟨(List.mem_cons_of_mem _ (List.mem_append_left _ (List.mem_append_right _ (List.mem_append_left _ lm5)))), List.forall_mem_cons.mpr ⟨(List.mem_cons_of_mem _ (List.mem_append_left _ (List.mem_append_right _ (List.mem_append_left _ lm6)))), List.forall_mem_cons.mpr ⟨(List.mem_cons_of_mem _ (List.mem_append_left _ (List.mem_append_right _ (List.mem_append_left _ lm7)))), List.forall_mem_cons.mpr ⟨(List.mem_cons_of_mem _ (List.mem_append_left _ (List.mem_append_right _ (List.mem_append_left _ lm8)))), List.forall_mem_cons.mpr ⟨(List.mem_cons_of_mem _ (List.mem_append_left _ (List.mem_append_right _ (List.mem_append_left _ lm9)))), List.forall_mem_cons.mpr ⟨(List.mem_cons_of_mem _ (List.mem_append_left _ (List.mem_append_right _ (List.mem_append_left _ lm10)))), List.forall_mem_cons.mpr ⟨(List.mem_cons_of_mem _ (List.mem_append_left _ (List.mem_append_right _ (List.mem_append_left _ lm11)))), List.forall_mem_cons.mpr ⟨(List.mem_cons_of_mem _ (List.mem_append_left _ (List.mem_append_right _ (List.mem_append_left _ lm12)))), List.forall_mem_cons.mpr ⟨(List.mem_cons_of_mem _ (List.mem_append_left _ (List.mem_append_right _ (List.mem_append_left _ lm13)))), List.forall_mem_cons.mpr ⟨(List.mem_cons_of_mem _ (List.mem_append_left _ (List.mem_append_right _ (List.mem_append_left _ lm14)))), List.forall_mem_cons.mpr ⟨(List.mem_cons_of_mem _ (List.mem_append_left _ (List.mem_append_right _ (List.mem_append_left _ lm15)))), List.forall_mem_cons.mpr ⟨(List.mem_cons_of_mem _ (List.mem_append_left _ (List.mem_append_right _ (List.mem_append_left _ lm16)))), List.forall_mem_cons.mpr ⟨(List.mem_cons_of_mem _ (List.mem_append_left _ (List.mem_append_right _ (List.mem_append_left _ lm17)))), List.forall_mem_cons.mpr ⟨(List.mem_cons_of_mem _ (List.mem_append_left _ (List.mem_append_right _ (List.mem_append_left _ lm18)))), List.forall_mem_cons.mpr ⟨(List.mem_cons_of_mem _ (List.mem_append_left _ (List.mem_append_right _ (List.mem_append_left _ lm19)))), List.forall_mem_cons.mpr ⟨(List.mem_cons_of_mem _ (List.mem_append_left _ (List.mem_append_right _ (List.mem_append_left _ lm20)))), List.forall_mem_cons.mpr ⟨(List.mem_cons_of_mem _ (List.mem_append_left _ (List.mem_append_right _ (List.mem_append_left _ lm21)))), List.forall_mem_cons.mpr ⟨(List.mem_cons_of_mem _ (List.mem_append_left _ (List.mem_append_right _ (List.mem_append_left _ lm22)))), List.forall_mem_cons.mpr ⟨(List.mem_cons_of_mem _ (List.mem_append_left _ (List.mem_append_right _ (List.mem_append_left _ lm23)))), List.forall_mem_cons.mpr ⟨(List.mem_cons_of_mem _ (List.mem_append_left _ (List.mem_append_right _ (List.mem_append_right _ (List.mem_append_left _ lm0))))), List.forall_mem_cons.mpr ⟨(List.mem_cons_of_mem _ (List.mem_append_left _ (List.mem_append_right _ (List.mem_append_right _ (List.mem_append_left _ lm1))))), List.forall_mem_cons.mpr ⟨(List.mem_cons_of_mem _ (List.mem_append_left _ (List.mem_append_right _ (List.mem_append_right _ (List.mem_append_left _ lm2))))), List.forall_mem_cons.mpr ⟨(List.mem_cons_of_mem _ (List.mem_append_left _ (List.mem_append_right _ (List.mem_append_right _ (List.mem_append_left _ lm3))))), (fun _ h => absurd h List.not_mem_nil)⟩⟩⟩⟩⟩⟩⟩⟩⟩⟩⟩⟩⟩⟩⟩⟩⟩⟩⟩⟩⟩⟩⟩⟩, List.forall_mem_append.mpr ⟨List.forall_mem_cons.mpr ⟨(List.mem_cons_of_mem _ (List.mem_append_left _ (List.mem_append_right _ (List.mem_append_right _ (List.mem_append_left _ lm4))))), List.forall_mem_cons.mpr ⟨(List.mem_cons_of_mem _ (List.mem_append_left _ (List.mem_append_right _ (List.mem_append_right _ (List.mem_append_left _ lm5))))), List.forall_mem_cons.mpr ⟨(List.mem_cons_of_mem _ (List.mem_append_left _ (List.mem_append_right _ (List.mem_append_right _ (List.mem_append_left _ lm6))))), List.forall_mem_cons.mpr ⟨(List.mem_cons_of_mem _ (List.mem_append_left _ (List.mem_append_right _ (List.mem_append_right _ (List.mem_append_left _ lm7))))), List.forall_mem_cons.mpr ⟨(List.mem_cons_of_mem _ (List.mem_append_left _ (List.mem_append_right _ (List.mem_append_right _ (List.mem_append_left _ lm8))))), List.forall_mem_cons.mpr ⟨(List.mem_cons_of_mem _ (List.mem_append_left _ (List.mem_append_right _ (List.mem_append_right _ (List.mem_append_left _ lm9))))), List.forall_mem_cons.mpr ⟨(List.mem_cons_of_mem _ (List.mem_append_left _ (List.mem_append_right _ (List.mem_append_right _ (List.mem_append_left _ lm10))))), List.forall_mem_cons.mpr ⟨(List.mem_cons_of_mem _ (List.mem_append_left _ (List.mem_append_right _ (List.mem_append_right _ (List.mem_append_left _ lm11))))), List.forall_mem_cons.mpr ⟨(List.mem_cons_of_mem _ (List.mem_append_left _ (List.mem_append_right _ (List.mem_append_right _ (List.mem_append_left _ lm12))))), List.forall_mem_cons.mpr ⟨(List.mem_cons_of_mem _ (List.mem_append_left _ (List.mem_append_right _ (List.mem_append_right _ (List.mem_append_left _ lm13))))), List.forall_mem_cons.mpr ⟨(List.mem_cons_of_mem _ (List.mem_append_left _ (List.mem_append_right _ (List.mem_append_right _ (List.mem_append_left _ lm14))))), List.forall_mem_cons.mpr ⟨(List.mem_cons_of_mem _ (List.mem_append_left _ (List.mem_append_right _ (List.mem_append_right _ (List.mem_append_left _ lm15))))), List.forall_mem_cons.mpr ⟨(List.mem_cons_of_mem _ (List.mem_append_left _ (List.mem_append_right _ (List.mem_append_right _ (List.mem_append_left _ lm16))))), List.forall_mem_cons.mpr ⟨(List.mem_cons_of_mem _ (List.mem_append_left _ (List.mem_append_right _ (List.mem_append_right _ (List.mem_append_left _ lm17))))), List.forall_mem_cons.mpr ⟨(List.mem_cons_of_mem _ (List.mem_append_left _ (List.mem_append_right _ (List.mem_append_right _ (List.mem_append_left _ lm18))))), List.forall_mem_cons.mpr ⟨(List.mem_cons_of_mem _ (List.mem_append_left _ (List.mem_append_right _ (List.mem_append_right _ (List.mem_append_left _ lm19))))), List.forall_mem_cons.mpr ⟨(List.mem_cons_of_mem _ (List.mem_append_left _ (List.mem_append_right _ (List.mem_append_right _ (List.mem_append_left _ lm20))))), List.forall_mem_cons.mpr ⟨(List.mem_cons_of_mem _ (List.mem_append_left _ (List.mem_append_right _ (List.mem_append_right _ (List.mem_append_left _ lm21))))), List.forall_mem_cons.mpr ⟨(List.mem_cons_of_mem _ (List.mem_append_left _ (List.mem_append_right _ (List.mem_append_right _ (List.mem_append_left _ lm22))))), List.forall_mem_cons.mpr ⟨(List.mem_cons_of_mem _ (List.mem_append_left _ (List.mem_append_right _ (List.mem_append_right _ (List.mem_append_left _ lm23))))), List.forall_mem_cons.mpr ⟨(List.mem_cons_of_mem _ (List.mem_append_left _ (List.mem_append_right _ (List.mem_append_right _ (List.mem_append_right _ lm0))))), List.forall_mem_cons.mpr ⟨(List.mem_cons_of_mem _ (List.mem_append_left _ (List.mem_append_right _ (List.mem_append_right _ (List.mem_append_right _ lm1))))), List.forall_mem_cons.mpr ⟨(List.mem_cons_of_mem _ (List.mem_append_left _ (List.mem_append_right _ (List.mem_append_right _ (List.mem_append_right _ lm2))))), List.forall_mem_cons.mpr ⟨(List.mem_cons_of_mem _ (List.mem_append_left _ (List.mem_append_right _ (List.mem_append_right _ (List.mem_append_right _ lm3))))), (fun _ h => absurd h List.not_mem_nil)⟩⟩⟩⟩⟩⟩⟩⟩⟩⟩⟩⟩⟩⟩⟩⟩⟩⟩⟩⟩⟩⟩⟩⟩, List.forall_mem_cons.mpr ⟨(List.mem_cons_of_mem _ (List.mem_append_left _ (List.mem_append_right _ (List.mem_append_right _ (List.mem_append_right _ lm4))))), List.forall_mem_cons.mpr ⟨(List.mem_cons_of_mem _ (List.mem_append_left _ (List.mem_append_right _ (List.mem_append_right _ (List.mem_append_right _ lm5))))), List.forall_mem_cons.mpr ⟨(List.mem_cons_of_mem _ (List.mem_append_left _ (List.mem_append_right _ (List.mem_append_right _ (List.mem_append_right _ lm6))))), List.forall_mem_cons.mpr ⟨(List.mem_cons_of_mem _ (List.mem_append_left _ (List.mem_append_right _ (List.mem_append_right _ (List.mem_append_right _ lm7))))), List.forall_mem_cons.mpr ⟨(List.mem_cons_of_mem _ (List.mem_append_left _ (List.mem_append_right _ (List.mem_append_right _ (List.mem_append_right _ lm8))))), List.forall_mem_cons.mpr ⟨(List.mem_cons_of_mem _ (List.mem_append_left _ (List.mem_append_right _ (List.mem_append_right _ (List.mem_append_right _ lm9))))), List.forall_mem_cons.mpr ⟨(List.mem_cons_of_mem _ (List.mem_append_left _ (List.mem_append_right _ (List.mem_append_right _ (List.mem_append_right _ lm10))))), List.forall_mem_cons.mpr ⟨(List.mem_cons_of_mem _ (List.mem_append_left _ (List.mem_append_right _ (List.mem_append_right _ (List.mem_append_right _ lm11))))), List.forall_mem_cons.mpr ⟨(List.mem_cons_of_mem _ (List.mem_append_left _ (List.mem_append_right _ (List.mem_append_right _ (List.mem_append_right _ lm12))))), List.forall_mem_cons.mpr ⟨(List.mem_cons_of_mem _ (List.mem_append_left _ (List.mem_append_right _ (List.mem_append_right _ (List.mem_append_right _ lm13))))), List.forall_mem_cons.mpr ⟨(List.mem_cons_of_mem _ (List.mem_append_left _ (List.mem_append_right _ (List.mem_append_right _ (List.mem_append_right _ lm14))))), List.forall_mem_cons.mpr ⟨(List.mem_cons_of_mem _ (List.mem_append_left _ (List.mem_append_right _ (List.mem_append_right _ (List.mem_append_right _ lm15))))), List.forall_mem_cons.mpr ⟨(List.mem_cons_of_mem _ (List.mem_append_left _ (List.mem_append_right _ (List.mem_append_right _ (List.mem_append_right _ lm16))))), List.forall_mem_cons.mpr ⟨(List.mem_cons_of_mem _ (List.mem_append_left _ (List.mem_append_right _ (List.mem_append_right _ (List.mem_append_right _ lm17))))), List.forall_mem_cons.mpr ⟨(List.mem_cons_of_mem _ (List.mem_append_left _ (List.mem_append_right _ (List.mem_append_right _ (List.mem_append_right _ lm18))))), List.forall_mem_cons.mpr ⟨(List.mem_cons_of_mem _ (List.mem_append_left _ (List.mem_append_right _ (List.mem_append_right _ (List.mem_append_right _ lm19))))), List.forall_mem_cons.mpr ⟨(List.mem_cons_of_mem _ (List.mem_append_left _ (List.mem_append_right _ (List.mem_append_right _ (List.mem_append_right _ lm20))))), (fun _ h => absurd h List.not_mem_nil)⟩⟩⟩⟩⟩⟩⟩⟩⟩⟩⟩⟩⟩⟩⟩⟩⟩⟩⟩⟩, (fun _ h => (List.mem_cons_of_mem _ (List.mem_append_right _ h)))⟩⟩) gw_X12_fitting)
theorem gX12_bound_X12_fits : GoodIn wsX12_bound (wsV RX12 360 RX12 yX12_fits wsX12_fits) := goodIn_app (goodIn_sub (List.forall_mem_cons.mpr ⟨(List.mem_cons_of_mem _ (List.mem_append_left _ (List.mem_append_left _ lm6))), List.forall_mem_cons.mpr ⟨(List.mem_cons_of_mem _ (List.mem_append_left _ (List.mem_append_left _ lm7))), List.forall_mem_cons.mpr ⟨(List.mem_cons_of_mem _ (List.mem_append_left _ (List.mem_append_left _ lm8))), List.forall_mem_cons.mpr ⟨(List.mem_cons_of_mem _ (List.mem_append_left _ (List.mem_append_left _ lm4))), (fun _ h => absurd h List.not_mem_nil)⟩⟩⟩⟩) (by decide +kernel)) (goodIn_sub (by unfold wsX12_fits; exact List.forall_mem_cons.mpr ⟨(List.mem_cons_of_mem _ (List.mem_append_left _ (List.mem_append_left _ lm9))), List.forall_mem_append.mpr ⟨List.forall_mem_append.mpr ⟨List.forall_mem_cons.mpr ⟨(List.mem_cons_of_mem _ (List.mem_append_left _ (List.mem_append_left _ lm10))), List.forall_mem_cons.mpr ⟨(List.mem_cons_of_mem _ (List.mem_append_left _ (List.mem_append_left _ lm11))), List.forall_mem_cons.mpr ⟨(List.mem_cons_of_mem _ (List.mem_append_left _ (List.mem_append_left _ lm12))), List.forall_mem_cons.mpr ⟨(List.mem_cons_of_mem _ (List.mem_append_left _ (List.mem_append_left _ lm13))), List.forall_mem_cons.mpr ⟨(List.mem_cons_of_mem _ (List.mem_append_left _ (List.mem_append_left _ lm14))), List.forall_mem_cons.mpr ⟨(List.mem_cons_of_mem _ (List.mem_append_left _ (List.mem_append_left _ lm15))), List.forall_mem_cons.mpr ⟨(List.mem_cons_of_mem _ (List.mem_append_left _ (List.mem_append_left _ lm16))), List.forall_mem_cons.mpr ⟨(List.mem_cons_of_mem _ (List.mem_append_left _ (List.mem_append_left _ lm17))), List.forall_mem_cons.mpr ⟨(List.mem_cons_of_mem _ (List.mem_append_left _ (List.mem_append_left _ lm18))), List.forall_mem_cons.mpr ⟨(List.mem_cons_of_mem _ (List.mem_append_left _ (List.mem_append_left _ lm19))), List.forall_mem_cons.mpr ⟨(List.mem_cons_of_mem _ (List.mem_append_left _ (List.mem_append_left _ lm20))), List.forall_mem_cons.mpr ⟨(List.mem_cons_of_mem _ (List.mem_append_left _ (List.mem_append_left _ lm21))), List.forall_mem_cons.mpr ⟨(List.mem_cons_of_mem _ (List.mem_append_left _ (List.mem_append_left _ lm22))), List.forall_mem_cons.mpr ⟨(List.mem_cons_of_mem _ (List.mem_append_left _ (List.mem_append_left _ lm23))), List.forall_mem_cons.mpr ⟨(List.mem_cons_of_mem _ (List.mem_append_left _ (List.mem_append_left _ lm4))), List.forall_mem_cons.mpr ⟨(List.mem_cons_of_mem _ (List.mem_append_left _ (List.mem_append_right _ (List.mem_append_left _ lm0)))), List.forall_mem_cons.mpr ⟨(List.mem_cons_of_mem _ (List.mem_append_left _ (List.mem_append_right _ (List.mem_append_left _ lm1)))), List.forall_mem_cons.mpr ⟨(List.mem_cons_of_mem _ (List.mem_append_left _ (List.mem_append_right _ (List.mem_append_left _ lm2)))), List.forall_mem_cons.mpr ⟨(List.mem_cons_of_mem _ (List.mem_append_left _ (List.mem_append_right _ (List.mem_append_left _ lm3)))), List.forall_mem_cons.mpr ⟨(List.mem_cons_of_mem _ (List.mem_append_left _ (List.mem_append_right _ (List.mem_append_left _ lm4)))), List.forall_mem_cons.mpr ⟨(List.mem_cons_of_mem _ (List.mem_append_left _ (List.mem_append_right _ (List.mem_append_left _ lm5)))), List.forall_mem_cons.mpr ⟨(List.mem_cons_of_mem _ (List.mem_append_left _ (List.mem_append_right _ (List.mem_append_left _ lm6)))), List.forall_mem_cons.mpr ⟨(List.mem_cons_of_mem _ (List.mem_append_left _ (List.mem_append_right _ (List.mem_append_left _ lm7)))), List.forall_mem_cons.mpr ⟨(List.mem_cons_of_mem _ (List.mem_append_left _ (List.mem_append_right _ (List.mem_append_left _ lm8)))), (fun _ h => absurd h List.not_mem_nil)⟩⟩⟩⟩⟩⟩⟩⟩⟩⟩⟩⟩⟩⟩⟩⟩⟩⟩⟩⟩⟩⟩⟩⟩, List.forall_mem_append.mpr ⟨List.forall_mem_cons.mpr ⟨(List.mem_cons_of_mem _ (List.mem_append_left _ (List.mem_append_right _ (List.mem_append_left _ lm9)))), List.forall_mem_cons.mpr ⟨(List.mem_cons_of_mem _ (List.mem_append_left _ (List.mem_append_right _ (List.mem_append_left _ lm10)))), List.forall_mem_cons.mpr ⟨(List.mem_cons_of_mem _ (List.mem_append_left _ (List.mem_append_right _ (List.mem_append_left _ lm11)))), List.forall_mem_cons.mpr ⟨(List.mem_cons_of_mem _ (List.mem_append_left _ (List.mem_append_right _ (List.mem_append_left _ lm12)))), List.forall_mem_cons.mpr ⟨(List.mem_cons_of_mem _ (List.mem_append_left _ (List.mem_append_right _ (List.mem_append_left _ lm13)))), List.forall_mem_cons.mpr ⟨(List.mem_cons_of_mem _ (List.mem_append_left _ (List.mem_append_right _ (List.mem_append_left _ lm14)))), List.forall_mem_cons.mpr ⟨(List.mem_cons_of_mem _ (List.mem_append_left _ (List.mem_append_right _ (List.mem_append_left _ lm15)))), List.forall_mem_cons.mpr ⟨(List.mem_cons_of_mem _ (List.mem_append_left _ (List.mem_append_right _ (List.mem_append_left _ lm16)))), List.forall_mem_cons.mpr ⟨(List.mem_cons_of_mem _ (List.mem_append_left _ (List.mem_append_right _ (List.mem_append_left _ lm17)))), List.forall_mem_cons.mpr ⟨(List.mem_cons_of_mem _ (List.mem_append_left _ (List.mem_append_right _ (List.mem_append_left _ lm18)))), List.forall_mem_cons.mpr ⟨(List.mem_cons_of_mem _ (List.mem_append_left _ (List.mem_append_right _ (List.mem_append_left _ lm19)))), List.forall_mem_cons.mpr ⟨(List.mem_cons_of_mem _ (List.mem_append_left _ (List.mem_append_right _ (List.mem_append_left _ lm20)))), List.forall_mem_cons.mpr ⟨(List.mem_cons_of_mem _ (List.mem_append_left _ (List.mem_append_right _ (List.mem_append_left _ lm21)))), List.forall_mem_cons.mpr ⟨(List.mem_cons_of_mem _ (List.mem_append_left _ (List.mem_append_right _ (List.mem_append_left _ lm22)))), List.forall_mem_cons.mpr ⟨(List.mem_cons_of_mem _ (List.mem_append_left _ (List.mem_append_right _ (List.mem_append_left _ lm23)))), List.forall_mem_cons.mpr ⟨(List.mem_cons_of_mem _ (List.mem_append_left _ (List.mem_append_right _ (List.mem_append_right _ (List.mem_append_left _ lm0))))), List.forall_mem_cons.mpr ⟨(List.mem_cons_of_mem _ (List.mem_append_left _ (List.mem_append_right _ (List.mem_append_right _ (List.mem_append_left _ lm1))))), List.forall_mem_cons.mpr ⟨(List.mem_cons_of_mem _ (List.mem_append_left _ (List.mem_append_right _ (List.mem_append_right _ (List.mem_append_left _ lm2))))), List.forall_mem_cons.mpr ⟨(List.mem_cons_of_mem _ (List.mem_append_left _ (List.mem_append_right _ (List.mem_append_right _ (List.mem_append_left _ lm3))))), List.forall_mem_cons.mpr ⟨(List.mem_cons_of_mem _ (List.mem_append_left _ (List.mem_append_right _ (List.mem_append_right _ (List.mem_append_left _ lm4))))), List.forall_mem_cons.mpr ⟨(List.mem_cons_of_mem _ (List.mem_append_left _ (List.mem_append_right _ (List.mem_append_right _ (List.mem_append_left _ lm5))))), List.forall_mem_cons.mpr ⟨(List.mem_cons_of_mem _ (List.mem_append_left _ (List.mem_append_right _ (List.mem_append_right _ (List.mem_append_left _ lm6))))), List.forall_mem_cons.mpr ⟨(List.mem_cons_of_mem _ (List.mem_append_left _ (List.mem_append_right _ (List.mem_append_right _ (List.mem_append_left _ lm7))))), List.forall_mem_cons.mpr ⟨(List.mem_cons_of_mem _ (List.mem_append_left _ (List.mem_append_right _ (List.mem_append_right _ (List.mem_append_left _ lm8))))), (fun _ h => absurd h List.not_mem_nil)⟩⟩⟩⟩⟩⟩⟩⟩⟩⟩⟩⟩⟩⟩⟩⟩⟩⟩⟩⟩⟩⟩⟩⟩, List.forall_mem_append.mpr ⟨List.forall_mem_cons.mpr ⟨(List.mem_cons_of_mem _ (List.mem_append_left _ (List.mem_append_right _ (List.mem_append_right _ (List.mem_append_left _ lm9))))), List.forall_mem_cons.mpr ⟨(List.mem_cons_of_mem _ (List.mem_append_left _ (List.mem_append_right _ (List.mem_append_right _ (List.mem_append_left _ lm10))))), List.forall_mem_cons.mpr ⟨(List.mem_cons_of_mem _ (List.mem_append_left _ (List.mem_append_right _ (List.mem_append_right _ (List.mem_append_left _ lm11))))), List.forall_mem_cons.mpr ⟨(List.mem_cons_of_mem _ (List.mem_append_left _ (List.mem_append_right _ (List.mem_append_right _ (List.mem_append_left _ lm12))))), List.forall_mem_cons.mpr ⟨(List.mem_cons_of_mem _ (List.mem_append_left _ (List.mem_append_right _ (List.mem_append_right _ (List.mem_append_left _ lm13))))), List.forall_mem_cons.mpr ⟨(List.mem_cons_of_mem _ (List.mem_append_left _ (List.mem_append_right _ (List.mem_append_right _ (List.mem_append_left _ lm14))))), List.forall_mem_cons.mpr ⟨(List.mem_cons_of_mem _ (List.mem_append_left _ (List.mem_append_right _ (List.mem_append_right _ (List.mem_append_left _ lm15))))), List.forall_mem_cons.mpr ⟨(List.mem_cons_of_mem _ (List.mem_append_left _ (List.mem_append_right _ (List.mem_append_right _ (List.mem_append_left _ lm16))))), List.forall_mem_cons.mpr ⟨(List.mem_cons_of_mem _ (List.mem_append_left _ (List.mem_append_right _ (List.mem_append_right _ (List.mem_append_left _ lm17))))), List.forall_mem_cons.mpr ⟨(List.mem_cons_of_mem _ (List.mem_append_left _ (List.mem_append_right _ (List.mem_append_right _ (List.mem_append_left _ lm18))))), List.forall_mem_cons.mpr ⟨(List.mem_cons_of_mem _ (List.mem_append_left _ (List.mem_append_right _ (List.mem_append_right _ (List.mem_append_left _ lm19))))), List.forall_mem_cons.mpr ⟨(List.mem_cons_of_mem _ (List.mem_append_left _ (List.mem_append_right _ (List.mem_append_right _ (List.mem_append_left _ lm20))))), List.forall_mem_cons.mpr ⟨(List.mem_cons_of_mem _ (List.mem_append_left _ (List.mem_append_right _ (List.mem_append_right _ (List.mem_append_left _ lm21))))), List.forall_mem_cons.mpr ⟨(List.mem_cons_of_mem _ (List.mem_append_left _ (List.mem_append_right _ (List.mem_append_right _ (List.mem_append_left _ lm22))))), List.forall_mem_cons.mpr ⟨(List.mem_cons_of_mem _ (List.mem_append_left _ (List.mem_append_right _ (List.mem_append_right _ (List.mem_append_left _ lm23))))), List.forall_mem_cons.mpr ⟨(List.mem_cons_of_mem _ (List.mem_append_left _ (List.mem_append_right _ (List.mem_append_right _ (List.mem_append_right _ lm0))))), List.forall_mem_cons.mpr ⟨(List.mem_cons_of_mem _ (List.mem_append_left _ (List.mem_append_right _ (List.mem_append_right _ (List.mem_append_right _ lm1))))), List.forall_mem_cons.mpr ⟨(List.mem_cons_of_mem _ (List.mem_append_left _ (List.mem_append_right _ (List.mem_append_right _ (List.mem_append_right _ lm2))))), List.forall_mem_cons.mpr ⟨(List.mem_cons_of_mem _ (List.mem_append_left _ (List.mem_append_right _ (List.mem_append_right _ (List.mem_append_right _ lm3))))), List.forall_mem_cons.mpr ⟨(List.mem_cons_of_mem _ (List.mem_append_left _ (List.mem_append_right _ (List.mem_append_right _ (List.mem_append_right _ lm4))))), List.forall_mem_cons.mpr ⟨(List.mem_cons_of_mem _ (List.mem_append_left _ (List.mem_append_right _ (List.mem_append_right _ (List.mem_append_right _ lm5))))), List.forall_mem_cons.mpr ⟨(List.mem_cons_of_mem _ (List.mem_append_left _ (List.mem_append_right _ (List.mem_append_right _ (List.mem_append_right _ lm6))))), List.forall_mem_cons.mpr ⟨(List.mem_cons_of_mem _ (List.mem_append_left _ (List.mem_append_right _ (List.mem_append_right _ (List.mem_append_right _ lm7))))), List.forall_mem_cons.mpr ⟨(List.mem_cons_of_mem _ (List.mem_append_left _ (List.mem_append_right _ (List.mem_append_right _ (List.mem_append_right _ lm8))))), (fun _ h => absurd h List.not_mem_nil)⟩⟩⟩⟩⟩⟩⟩⟩⟩⟩⟩⟩⟩⟩⟩⟩⟩⟩⟩⟩⟩⟩⟩⟩, List.forall_mem_cons.mpr ⟨(List.mem_cons_of_mem _ (List.mem_append_left _ (List.mem_append_right _ (List.mem_append_right _ (List.mem_append_right _ lm9))))), List.forall_mem_cons.mpr ⟨(List.mem_cons_of_mem _ (List.mem_append_left _ (List.mem_append_right _ (List.mem_append_right _ (List.mem_append_right _ lm10))))), List.forall_mem_cons.mpr ⟨(List.mem_cons_of_mem _ (List.mem_append_left _ (List.mem_append_right _ (List.mem_append_right _ (List.mem_append_right _ lm11))))), List.forall_mem_cons.mpr ⟨(List.mem_cons_of_mem _ (List.mem_append_left _ (List.mem_append_right _ (List.mem_append_right _ (List.mem_append_right _ lm12))))), List.forall_mem_cons.mpr ⟨(List.mem_cons_of_mem _ (List.mem_append_left _ (List.mem_append_right _ (List.mem_append_right _ (List.mem_append_right _ lm13))))), List.forall_mem_cons.mpr ⟨(List.mem_cons_of_mem _ (List.mem_append_left _ (List.mem_append_right _ (List.mem_append_right _ (List.mem_append_right _ lm14))))), List.forall_mem_cons.mpr ⟨(List.mem_cons_of_mem _ (List.mem_append_left _ (List.mem_append_right _ (List.mem_append_right _ (List.mem_append_right _ lm15))))), List.forall_mem_cons.mpr ⟨(List.mem_cons_of_mem _ (List.mem_append_left _ (List.mem_append_right _ (List.mem_append_right _ (List.mem_append_right _ lm16))))), List.forall_mem_cons.mpr ⟨(List.mem_cons_of_mem _ (List.mem_append_left _ (List.mem_append_right _ (List.mem_append_right _ (List.mem_append_right _ lm17))))), List.forall_mem_cons.mpr ⟨(List.mem_cons_of_mem _ (List.mem_append_left _ (List.mem_append_right _ (List.mem_append_right _ (List.mem_append_right _ lm18))))), List.forall_mem_cons.mpr ⟨(List.mem_cons_of_mem _ (List.mem_append_left _ (List.mem_append_right _ (List.mem_append_right _ (List.mem_append_right _ lm19))))), List.forall_mem_cons.mpr ⟨(List.mem_cons_of_mem _ (List.mem_append_left _ (List.mem_append_right _ (List.mem_append_right _ (List.mem_append_right _ lm20))))), (fun _ h => absurd h List.not_mem_nil)⟩⟩⟩⟩⟩⟩⟩⟩⟩⟩⟩⟩⟩⟩⟩, (fun _ h => (List.mem_cons_of_mem _ (List.mem_append_right _ h)))⟩⟩) gw_X12_fits)
theorem gX12_define_X12_busy : GoodIn wsX12_define (wsV RX12 174 RX12 yX12_busy wsX12_busy) := goodIn_app (goodIn_sub (List.forall_mem_cons.mpr ⟨(List.mem_cons_of_mem _ (List.mem_append_left _ (List.mem_append_left _ lm6))), List.forall_mem_cons.mpr ⟨(List.mem_cons_of_mem _ (List.mem_append_left _ (List.mem_append_left _ lm7))), List.forall_mem_cons.mpr ⟨(List.mem_cons_of_mem _ (List.mem_append_left _ (List.mem_append_left _ lm8))), List.forall_mem_cons.mpr ⟨(List.mem_cons_of_mem _ (List.mem_append_left _ (List.mem_append_left _ lm9))), (fun _ h => absurd h List.not_mem_nil)⟩⟩⟩⟩) (by decide +kernel)) (goodIn_sub (by unfold wsX12_busy; exact List.forall_mem_cons.mpr ⟨(List.mem_cons_of_mem _ (List.mem_append_left _ (List.mem_append_left _ lm10))), List.forall_mem_append.mpr ⟨List.forall_mem_cons.mpr ⟨(List.mem_cons_of_mem _ (List.mem_append_left _ (List.mem_append_left _ lm11))), List.forall_mem_cons.mpr ⟨(List.mem_cons_of_mem _ (List.mem_append_left _ (List.mem_append_left _ lm12))), List.forall_mem_cons.mpr ⟨(List.mem_cons_of_mem _ (List.mem_append_left _ (List.mem_append_left _ lm13))), List.forall_mem_cons.mpr ⟨(List.mem_cons_of_mem _ (List.mem_append_left _ (List.mem_append_left _ lm14))), List.forall_mem_cons.mpr ⟨(List.mem_cons_of_mem _ (List.mem_append_left _ (List.mem_append_left _ lm9))), List.forall_mem_cons.mpr ⟨(List.mem_cons_of_mem _ (List.mem_append_left _ (List.mem_append_left _ lm15))), List.forall_mem_cons.mpr ⟨(List.mem_cons_of_mem _ (List.mem_append_left _ (List.mem_append_left _ lm16))), (fun _ h => absurd h List.not_mem_nil)⟩⟩⟩⟩⟩⟩⟩, (fun _ h => (List.mem_cons_of_mem _ (List.mem_append_right _ h)))⟩⟩) gw_X12_busy)
theorem gX12_define_X12_parse : GoodIn wsX12_define (wsV RX12 304 RX12 yX12_parse wsX12_parse) := goodIn_app (goodIn_sub (List.forall_mem_cons.mpr ⟨(List.mem_cons_of_mem _ (List.mem_append_left _ (List.mem_append_left _ lm17))), List.forall_mem_cons.mpr ⟨(List.mem_cons_of_mem _ (List.mem_append_left _ (List.mem_append_left _ lm18))), List.forall_mem_cons.mpr ⟨(List.mem_cons_of_mem _ (List.mem_append_left _ (List.mem_append_left _ lm19))), List.forall_mem_cons.mpr ⟨(List.mem_cons_of_mem _ (List.mem_append_left _ (List.mem_append_left _ lm9))), (fun _ h => absurd h List.not_mem_nil)⟩⟩⟩⟩) (by decide +kernel)) (goodIn_sub (by unfold wsX12_parse; exact List.forall_mem_cons.mpr ⟨(List.mem_cons_of_mem _ (List.mem_append_left _ (List.mem_append_left _ lm20))), List.forall_mem_append.mpr ⟨List.forall_mem_append.mpr ⟨List.forall_mem_cons.mpr ⟨(List.mem_cons_of_mem _ (List.mem_append_left _ (List.mem_append_left _ lm21))), List.forall_mem_cons.mpr ⟨(List.mem_cons_of_mem _ (List.mem_append_left _ (List.mem_append_left _ lm22))), List.forall_mem_cons.mpr ⟨(List.mem_cons_of_mem _ (List.mem_append_left _ (List.mem_append_left _ lm23))), List.forall_mem_cons.mpr ⟨(List.mem_cons_of_mem _ (List.mem_append_left _ (List.mem_append_right _ (List.mem_append_left _ lm0)))), List.forall_mem_cons.mpr ⟨(List.mem_cons_of_mem _ (List.mem_append_left _ (List.mem_append_right _ (List.mem_append_left _ lm1)))), List.forall_mem_cons.mpr ⟨(List.mem_cons_of_mem _ (List.mem_append_left _ (List.mem_append_right _ (List.mem_append_left _ lm2)))), List.forall_mem_cons.mpr ⟨(List.mem_cons_of_mem _ (List.mem_append_left _ (List.mem_append_right _ (List.mem_append_left _ lm3)))), List.forall_mem_cons.mpr ⟨(List.mem_cons_of_mem _ (List.mem_append_left _ (List.mem_append_right _ (List.mem_append_left _ lm4)))), List.forall_mem_cons.mpr ⟨(List.mem_cons_of_mem _ (List.mem_append_left _ (List.mem_append_right _ (List.mem_append_left _ lm5)))), List.forall_mem_cons.mpr ⟨(List.mem_cons_of_mem _ (List.mem_append_left _ (List.mem_append_left _ lm9))), List.forall_mem_cons.mpr ⟨(List.mem_cons_of_mem _ (List.mem_append_left _ (List.mem_append_right _ (List.mem_append_left _ lm6)))), List.forall_mem_cons.mpr ⟨(List.mem_cons_of_mem _ (List.mem_append_left _ (List.mem_append_right _ (List.mem_append_left _ lm7)))), List.forall_mem_cons.mpr ⟨(List.mem_cons_of_mem _ (List.mem_append_left _ (List.mem_append_right _ (List.mem_append_left _ lm8)))), List.forall_mem_cons.mpr ⟨(List.mem_cons_of_mem _ (List.mem_append_left _ (List.mem_append_right _ (List.mem_append_left _ lm9)))), List.forall_mem_cons.mpr ⟨(List.mem_cons_of_mem _ (List.mem_append_left _ (List.mem_append_right _ (List.mem_append_left _ lm10)))), List.forall_mem_cons.mpr ⟨(List.mem_cons_of_mem _ (List.mem_append_left _ (List.mem_append_right _ (List.mem_append_left _ lm11)))), List.forall_mem_cons.mpr ⟨(List.mem_cons_of_mem _ (List.mem_append_left _ (List.mem_append_right _ (List.mem_append_left _ lm12)))), List.forall_mem_cons.mpr ⟨(List.mem_cons_of_mem _ (List.mem_append_left _ (List.mem_append_right _ (List.mem_append_left _ lm13)))), List.forall_mem_cons.mpr ⟨(List.mem_cons_of_mem _ (List.mem_append_left _ (List.mem_append_right _ (List.mem_append_left _ lm14)))), List.forall_mem_cons.mpr ⟨(List.mem_cons_of_mem _ (List.mem_append_left _ (List.mem_append_right _ (List.mem_append_left _ lm15)))), List.forall_mem_cons.mpr ⟨(List.mem_cons_of_mem _ (List.mem_append_left _ (List.mem_append_right _ (List.mem_append_left _ lm16)))), List.forall_mem_cons.mpr ⟨(List.mem_cons_of_mem _ (List.mem_append_left _ (List.mem_append_right _ (List.mem_append_left _ lm17)))), List.forall_mem_cons.mpr ⟨(List.mem_cons_of_mem _ (List.mem_append_left _ (List.mem_append_right _ (List.mem_append_left _ lm18)))), List.forall_mem_cons.mpr ⟨(List.mem_cons_of_mem _ (List.mem_append_left _ (List.mem_append_right _ (List.mem_append_left _ lm19)))), (fun _ h => absurd h List.not_mem_nil)⟩⟩⟩⟩⟩⟩⟩⟩⟩⟩⟩⟩⟩⟩⟩⟩⟩⟩⟩⟩⟩⟩⟩⟩, List.forall_mem_cons.mpr ⟨(List.mem_cons_of_mem _ (List.mem_append_left _ (List.mem_append_right _ (List.mem_append_left _ lm20)))), List.forall_mem_cons.mpr ⟨(List.mem_cons_of_mem _ (List.mem_append_left _ (List.mem_append_right _ (List.mem_append_left _ lm21)))), List.forall_mem_cons.mpr ⟨(List.mem_cons_of_mem _ (List.mem_append_left _ (List.mem_append_right _ (List.mem_append_left _ lm22)))), List.forall_mem_cons.mpr ⟨(List.mem_cons_of_mem _ (List.mem_append_left _ (List.mem_append_right _ (List.mem_append_left _ lm23)))), List.forall_mem_cons.mpr ⟨(List.mem_cons_of_mem _ (List.mem_append_left _ (List.mem_append_right _ (List.mem_append_right _ lm0)))), List.forall_mem_cons.mpr ⟨(List.mem_cons_of_mem _ (List.mem_append_left _ (List.mem_append_right _ (List.mem_append_right _ lm1)))), List.forall_mem_cons.mpr ⟨(List.mem_cons_of_mem _ (List.mem_append_left _ (List.mem_append_right _ (List.mem_append_right _ lm2)))), List.forall_mem_cons.mpr ⟨(List.mem_cons_of_mem _ (List.mem_append_left _ (List.mem_append_right _ (List.mem_append_right _ lm3)))), List.forall_mem_cons.mpr ⟨(List.mem_cons_of_mem _ (List.mem_append_left _ (List.mem_append_right _ (List.mem_append_right _ lm4)))), List.forall_mem_cons.mpr ⟨(List.mem_cons_of_mem _ (List.mem_append_left _ (List.mem_append_right _ (List.mem_append_right _ lm5)))), List.forall_mem_cons.mpr ⟨(List.mem_cons_of_mem _ (List.mem_append_left _ (List.mem_append_right _ (List.mem_append_right _ lm6)))), List.forall_mem_cons.mpr ⟨(List.mem_cons_of_mem _ (List.mem_append_left _ (List.mem_append_right _ (List.mem_append_right _ lm7)))), List.forall_mem_cons.mpr ⟨(List.mem_cons_of_mem _ (List.mem_append_left _ (List.mem_append_right _ (List.mem_append_right _ lm8)))), List.forall_mem_cons.mpr ⟨(List.mem_cons_of_mem _ (List.mem_append_left _ (List.mem_append_right _ (List.mem_append_right _ lm9)))), List.forall_mem_cons.mpr ⟨(List.mem_cons_of_mem _ (List.mem_append_left _ (List.mem_append_right _ (List.mem_append_right _ lm10)))), List.forall_mem_cons.mpr ⟨(List.mem_cons_of_mem _ (List.mem_append_left _ (List.mem_append_right _ (List.mem_append_right _ lm11)))), List.forall_mem_cons.mpr ⟨(List.mem_cons_of_mem _ (List.mem_append_left _ (List.mem_append_right _ (List.mem_append_right _ lm12)))), List.forall_mem_cons.mpr ⟨(List.mem_cons_of_mem _ (List.mem_append_left _ (List.mem_append_right _ (List.mem_append_right _ lm13)))), List.forall_mem_cons.mpr ⟨(List.mem_cons_of_mem _ (List.mem_append_left _ (List.mem_append_right _ (List.mem_append_right _ lm14)))), (fun _ h => absurd h List.not_mem_nil)⟩⟩⟩⟩⟩⟩⟩⟩⟩⟩⟩⟩⟩⟩⟩⟩⟩⟩⟩⟩, (fun _ h => (List.mem_cons_of_mem _ (List.mem_append_right _ h)))⟩⟩) gw_X12_parse)
theorem gX12_define_X12_throwsNow : GoodIn wsX12_define (wsV RX12 171 RX12 yX12_throwsNow wsX12_throwsNow) := goodIn_app (goodIn_sub (List.forall_mem_cons.mpr ⟨(List.mem_cons_of_mem _ (List.mem_append_left _ (List.mem_append_left _ lm12))), List.forall_mem_cons.mpr ⟨(List.mem_cons_of_mem _ (List.mem_append_left _ (List.mem_append_left _ lm13))), List.forall_mem_cons.mpr ⟨(List.mem_cons_of_mem _ (List.mem_append_left _ (List.mem_append_left _ lm14))), List.forall_mem_cons.mpr ⟨(List.mem_cons_of_mem _ (List.mem_append_left _ (List.mem_append_left _ lm9))), (fun _ h => absurd h List.not_mem_nil)⟩⟩⟩⟩) (by decide +kernel)) (goodIn_sub (by unfold wsX12_throwsNow; exact List.forall_mem_cons.mpr ⟨(List.mem_cons_of_mem _ (List.mem_append_left _ (List.mem_append_left _ lm15))), List.forall_mem_append.mpr ⟨List.forall_mem_cons.mpr ⟨(List.mem_cons_of_mem _ (List.mem_append_left _ (List.mem_append_left _ lm16))), (fun _ h => absurd h List.not_mem_nil)⟩, (fun _ h => (List.mem_cons_of_mem _ (List.mem_append_right _ h)))⟩⟩) gw_X12_throwsNow)
set_option maxHeartbeats 2000000 in
set_option maxRecDepth 100000 in
theorem m_fitting (l : Launch) (D : va_G) (g : Nat → Nat) (ka : Nat → ClassId) (ad : Nat → Nat) (i : Nat → Nat → Int32) (r : Nat → Nat → Nat) (L : Nat → Nat → Int64) (d : Nat → Nat → UInt64)  (hO : OkI i) (hR : RS r) (sz : Nat) (hdi : DI i) : Met l yX12_fitting wsX12_fitting ({ frames := 6, cells := 0, slots := 0, locals := 143 }) (va_Pc [.ref (g 36)] (sj_B D (hwc g ka i r L d) (hT ka) sz (gx ad (va_A (hwc g ka i r L d) sz)))) (sj_Qi (S := (Nat → Nat → Int32) × (Nat → Nat → Int64)) D (fun v u => OkI u.1 ∧ (∀ a b, ¬ ((a = 36 ∧ (b = 45 ∨ b = 49 ∨ b = 52 ∨ b = 54 ∨ b = 55 ∨ b = 57)) ∨ a = 406 ∨ a = 407 ∨ a = 408 ∨ a = 409 ∨ a = 410 ∨ a = 411 ∨ a = 413 ∨ a = 414 ∨ a = 415) → u.1 a b = i a b) ∧ ((0 : Int) ≤ v.toInt ∧ v.toInt ≤ 12)) (fun u => hwc g ka u.1 r u.2 d) (fun _ => []) (va_A (hwc g ka i r L d) sz)) 0 0 (va_A (hwc g ka i r L d) sz) := by
  refine x_met (Ex := gx ad) (cc := cX12_fitting) (maxL := 3) (ret := (some .int)) (by decide) rfl (Nat.le_of_ble_eq_true rfl) ?_
  intro p e s m below meth c A ls hx hb hr hml hts hown hlocks hA hS hH hK hE hl
  have hown : s.vm.findClass RX12 = some m.cls := hown
  have in12 : ∀ w ∈ wsX120, w ∈ wsX12_fitting := (fun _ h => (List.mem_cons_of_mem _ (List.mem_append_right _ h)))
  have wd0 := hts (.fieldLink RX12 308 "StoryDeskModel" "defined" "I") (List.mem_cons_of_mem _ (List.mem_append_left _ (List.mem_append_left _ lm0)))
  have hl : lv_has ls 3 [(0, .ref (g 36))] := hl
  have hK : va_K D vwCl (hT ka) s := hK
  have hb41 : (0 : Int) ≤ (i 36 41).toInt ∧ (i 36 41).toInt ≤ 12 := hO 36 41
  refine lv_iconst (v := 0) hx hb dX12_fitting_0 (by decide) ?_
  refine lv_istore_n (lv' := [(1, .int 0), (0, .ref (g 36))]) hx hb dX12_fitting_1 rfl hl (by decide) rfl (fun ls hl => ?_)
  refine lv_iconst (v := 0) hx hb dX12_fitting_2 (by decide) ?_
  refine lv_istore_n (lv' := [(2, .int 0), (1, .int 0), (0, .ref (g 36))]) hx hb dX12_fitting_3 rfl hl (by decide) rfl (fun ls hl => ?_)
  -- loop at 4
  have lp_1 : ∀ (fuel_lp_1 : Nat) (t : Int32) (f : Int32) (j1 : Nat → Nat → Int32) (Lv_2 : Nat → Nat → Int64) (H : Heap) (locs : List Loc) (ls : Array Slot), (12 - f.toInt).toNat < fuel_lp_1 → (0 : Int) ≤ t.toInt ∧ t.toInt ≤ 12 → (0 : Int) ≤ f.toInt ∧ f.toInt ≤ 12 → t.toInt ≤ f.toInt ∧ f.toInt ≤ (i 36 41).toInt → OkI j1 → (∀ a b, ¬ ((a = 36 ∧ (b = 45 ∨ b = 49 ∨ b = 52 ∨ b = 54 ∨ b = 55 ∨ b = 57)) ∨ a = 406 ∨ a = 407 ∨ a = 408 ∨ a = 409 ∨ a = 410 ∨ a = 411 ∨ a = 413 ∨ a = 414 ∨ a = 415) → j1 a b = i a b) → lv_has ls 3 [(2, .int f), (1, .int t), (0, .ref (g 36))] → sj_H D A (hwc g ka j1 r Lv_2 d) H → va_S A s.heap H locs → W p l e (headSpec wsX12_fitting ({ frames := 6, cells := 0, slots := 0, locals := 143 })).room s m ([.ref (g 36)] : List Value).toArray below meth c H locs 0 0 (MQ below (sj_Qi (S := (Nat → Nat → Int32) × (Nat → Nat → Int64)) D (fun v u => OkI u.1 ∧ (∀ a b, ¬ ((a = 36 ∧ (b = 45 ∨ b = 49 ∨ b = 52 ∨ b = 54 ∨ b = 55 ∨ b = 57)) ∨ a = 406 ∨ a = 407 ∨ a = 408 ∨ a = 409 ∨ a = 410 ∨ a = 411 ∨ a = 413 ∨ a = 414 ∨ a = 415) → u.1 a b = i a b) ∧ ((0 : Int) ≤ v.toInt ∧ v.toInt ≤ 12)) (fun u => hwc g ka u.1 r u.2 d) (fun _ => []) A) ([.ref (g 36)] : List Value).toArray s 0 0 A) (F0 m 4 ls []) := by
    intro fuel_lp_1
    induction fuel_lp_1 with
    | zero => intros; omega
    | succ fuel_lp_1 ih_lp_1 =>
      intro t f j1 Lv_2 H locs ls hm hr_t hr_f hi_lp_1_0 hO_j1 hfr_j1 hl hH hS
      refine lv_iload_n hx hb dX12_fitting_4 rfl (lv_at hl 0 rfl) ?_
      refine lv_aload_n hx hb dX12_fitting_5 rfl (lv_at hl 2 rfl) ?_
      have bx_3 : (0 : Int) ≤ (i 36 41).toInt ∧ (i 36 41).toInt ≤ 12 := hO 36 41
      refine h_geti (ci := 12) (C := RX12) (F := TX12) (N := 86) hx hb hts in12 hown hK hH (by decide) (rfl : kd 36 = 12) (by decide) rfl 41 (by decide) wd0 (fun _ h9 => h9) (by decide) rfl dX12_fitting_6 ?_
      refine sj_i (y := (i 36 41)) (hfr_j1 36 41 (by omega)) ?_
      refine lv_icmp_ge (tgt := 34) hx hb dX12_fitting_9 (by decide) (fun c_4 => ?_) (fun c_4 => ?_)
      · skip
        have h_5 := s_le (rfl : (i 36 41).toInt = _) (rfl : f.toInt = _) c_4
        refine lv_iload_n hx hb dX12_fitting_34 rfl (lv_at hl 1 rfl) ?_
        exact sj_zret hx hb hr hlocks rfl hS (j1, Lv_2) ⟨hO_j1, (fun a b ha => (hfr_j1 a b (by omega))), ⟨by omega, by omega⟩⟩ hH (sj_Knil hK) (Nat.le_of_ble_eq_true rfl) (Nat.le_of_ble_eq_true rfl) dX12_fitting_35
      · skip
        have h_6 := s_nle (rfl : (i 36 41).toInt = _) (rfl : f.toInt = _) c_4
        refine lv_iload_n hx hb dX12_fitting_12 rfl (lv_at hl 1 rfl) ?_
        refine lv_aload_n hx hb dX12_fitting_13 rfl (lv_at hl 2 rfl) ?_
        refine lv_iload_n hx hb dX12_fitting_14 rfl (lv_at hl 0 rfl) ?_
        refine x_calli (va_runV (As := [.int f]) (rest := [.int t]) ⟨hx, hb, hml, hown, hts⟩ (m_fits l D g ka ad j1 r Lv_2 d f hO_j1 hR H.size (by first | omega | decide) (by first | omega | decide) (DI_at (DI_fr hdi (hfr_j1 36 41 (by omega)) (funext fun b9 => (hfr_j1 403 b9 (by omega))) (funext fun b9 => (hfr_j1 404 b9 (by omega)))) (by omega) (by first | omega | (rw [show j1 36 41 = i 36 41 from (hfr_j1 36 41 (by omega))]; omega)))) (cwV 1 hts gX12_fitting_X12_fits rfl rfl rfl (by decide +kernel) ⟨(Nat.le_of_ble_eq_true rfl), (Nat.le_of_ble_eq_true rfl)⟩) (x_preV (q := (RX12, TX12, 86)) hH hK (q_obj (by decide) (rfl : kd 36 = 12) (by decide)) rfl gxb (gxw hE hS (x_F hH hS hA))) rfl rfl hl.1 rfl (lv_room (Nat.le_of_ble_eq_true rfl)) dX12_fitting_15 ⟨(Nat.le_of_ble_eq_true rfl), (Nat.le_of_ble_eq_true rfl)⟩) hH hS hA rfl rfl (fun r_7 u_11 H locs hw_8 hH hS => ?_)
        obtain ⟨im_9, Lm_10⟩ := u_11
        try dsimp only at hw_8
        have hH : sj_H D A (hwc g ka im_9 r Lm_10 d) H := hH
        obtain ⟨hO_13, hfr_12, hr_14, hx2_15⟩ := hw_8
        have hr_14 : (0 : Int) ≤ r_7.toInt ∧ r_7.toInt ≤ 1 := hr_14
        refine lv_if_eq (tgt := 25) hx hb dX12_fitting_18 (by decide) (fun c_16 => ?_) (fun c_16 => ?_)
        · skip
          have h_17 := s_eq (rfl : r_7.toInt = _) (show (0 : Int32).toInt = 0 from rfl) c_16
          refine lv_iconst (v := 0) hx hb dX12_fitting_25 (by decide) ?_
          refine lv_iadd hx hb dX12_fitting_26 ?_
          obtain ⟨z_18, ez_18, hz_18⟩ := s_add (rfl : t.toInt = _) (show (0 : Int32).toInt = 0 from rfl) (by omega) (by omega)
          refine sj_i ez_18 ?_
          refine lv_istore_n (lv' := [(1, .int z_18), (2, .int f), (0, .ref (g 36))]) hx hb dX12_fitting_27 rfl hl (by decide) rfl (fun ls hl => ?_)
          obtain ⟨z_19, ez_19, hz_19⟩ := s_add (rfl : f.toInt = _) (show (1 : Int32).toInt = 1 from rfl) (by omega) (by omega)
          refine lv_iinc (v := z_19) (lv' := [(2, .int z_19), (1, .int z_18), (0, .ref (g 36))]) hx hb dX12_fitting_28 hl (k := 1) rfl ez_19 (by decide) rfl (fun ls hl => ?_)
          refine lv_goto (tgt := 4) hx hb dX12_fitting_31 (by decide) ?_
          exact ih_lp_1 z_18 z_19 _ _ _ _ ls (by omega) (by omega) (by omega) (by omega) hO_13 (fun a b ha => ((hfr_12 a b (by omega)).trans (hfr_j1 a b (by omega)))) (lv_sub hl [0, 1, 2] rfl) hH hS
        · skip
          have h_20 := s_ne (rfl : r_7.toInt = _) (show (0 : Int32).toInt = 0 from rfl) c_16
          refine lv_iconst (v := 1) hx hb dX12_fitting_21 (by decide) ?_
          refine lv_goto (tgt := 26) hx hb dX12_fitting_22 (by decide) ?_
          refine lv_iadd hx hb dX12_fitting_26 ?_
          obtain ⟨z_21, ez_21, hz_21⟩ := s_add (rfl : t.toInt = _) (show (1 : Int32).toInt = 1 from rfl) (by omega) (by omega)
          refine sj_i ez_21 ?_
          refine lv_istore_n (lv' := [(1, .int z_21), (2, .int f), (0, .ref (g 36))]) hx hb dX12_fitting_27 rfl hl (by decide) rfl (fun ls hl => ?_)
          obtain ⟨z_22, ez_22, hz_22⟩ := s_add (rfl : f.toInt = _) (show (1 : Int32).toInt = 1 from rfl) (by omega) (by omega)
          refine lv_iinc (v := z_22) (lv' := [(2, .int z_22), (1, .int z_21), (0, .ref (g 36))]) hx hb dX12_fitting_28 hl (k := 1) rfl ez_22 (by decide) rfl (fun ls hl => ?_)
          refine lv_goto (tgt := 4) hx hb dX12_fitting_31 (by decide) ?_
          exact ih_lp_1 z_21 z_22 _ _ _ _ ls (by omega) (by omega) (by omega) (by omega) hO_13 (fun a b ha => ((hfr_12 a b (by omega)).trans (hfr_j1 a b (by omega)))) (lv_sub hl [0, 1, 2] rfl) hH hS
  have hl_23 : (0 : Int32).toInt = 0 := rfl
  have hl_24 : (0 : Int32).toInt = 0 := rfl
  exact lp_1 _ 0 0 _ _ _ _ ls (Nat.lt_succ_self _) (by omega) (by omega) (by omega) hO (fun a b ha => rfl) (lv_sub hl [0, 1, 2] rfl) hH hS
set_option maxHeartbeats 2000000 in
set_option maxRecDepth 100000 in
theorem m_bound (l : Launch) (D : va_G) (g : Nat → Nat) (ka : Nat → ClassId) (ad : Nat → Nat) (i : Nat → Nat → Int32) (r : Nat → Nat → Nat) (L : Nat → Nat → Int64) (d : Nat → Nat → UInt64)  (hO : OkI i) (hR : RS r) (sz : Nat) (hdi : DI i) : Met l yX12_bound wsX12_bound ({ frames := 7, cells := 0, slots := 0, locals := 165 }) (va_Pc [.ref (g 36)] (sj_B D (hwc g ka i r L d) (hT ka) sz (gx ad (va_A (hwc g ka i r L d) sz)))) (sj_Qi (S := (Nat → Nat → Int32) × (Nat → Nat → Int64)) D (fun v u => OkI u.1 ∧ (∀ a b, ¬ ((a = 36 ∧ (b = 45 ∨ b = 49 ∨ b = 52 ∨ b = 54 ∨ b = 55 ∨ b = 57)) ∨ a = 406 ∨ a = 407 ∨ a = 408 ∨ a = 409 ∨ a = 410 ∨ a = 411 ∨ a = 413 ∨ a = 414 ∨ a = 415) → u.1 a b = i a b) ∧ ((-2 : Int) ≤ v.toInt ∧ v.toInt ≤ 11) ∧ ((0 ≤ v.toInt → AQ u.1 (bfL i) ∧ v.toInt < (i 36 41).toInt))) (fun u => hwc g ka u.1 r u.2 d) (fun _ => []) (va_A (hwc g ka i r L d) sz)) 0 0 (va_A (hwc g ka i r L d) sz) := by
  refine x_met (Ex := gx ad) (cc := cX12_bound) (maxL := 3) (ret := (some .int)) (by decide) rfl (Nat.le_of_ble_eq_true rfl) ?_
  intro p e s m below meth c A ls hx hb hr hml hts hown hlocks hA hS hH hK hE hl
  have hown : s.vm.findClass RX12 = some m.cls := hown
  have in12 : ∀ w ∈ wsX120, w ∈ wsX12_bound := (fun _ h => (List.mem_cons_of_mem _ (List.mem_append_right _ h)))
  have wd0 := hts (.fieldLink RX12 308 "StoryDeskModel" "defined" "I") (List.mem_cons_of_mem _ (List.mem_append_left _ (List.mem_append_left _ lm0)))
  have hl : lv_has ls 3 [(0, .ref (g 36))] := hl
  have hK : va_K D vwCl (hT ka) s := hK
  have hb41 : (0 : Int) ≤ (i 36 41).toInt ∧ (i 36 41).toInt ≤ 12 := hO 36 41
  refine lv_aload_n hx hb dX12_bound_0 rfl (lv_at hl 0 rfl) ?_
  refine x_calli (va_runV (As := []) (rest := []) ⟨hx, hb, hml, hown, hts⟩ (m_fitting l D g ka ad i r L d  hO hR s.heap.size hdi) (cwV 0 hts gX12_bound_X12_fitting rfl rfl rfl (by decide +kernel) ⟨(Nat.le_of_ble_eq_true rfl), (Nat.le_of_ble_eq_true rfl)⟩) (x_preV (q := (RX12, TX12, 86)) hH hK (q_obj (by decide) (rfl : kd 36 = 12) (by decide)) rfl gxb (gxw hE hS (x_F hH hS hA))) rfl rfl hl.1 rfl (lv_room (Nat.le_of_ble_eq_true rfl)) dX12_bound_1 ⟨(Nat.le_of_ble_eq_true rfl), (Nat.le_of_ble_eq_true rfl)⟩) hH hS hA rfl rfl (fun r_1 u_5 H locs hw_2 hH hS => ?_)
  obtain ⟨im_3, Lm_4⟩ := u_5
  try dsimp only at hw_2
  have hH : sj_H D A (hwc g ka im_3 r Lm_4 d) H := hH
  obtain ⟨hO_7, hfr_6, hr_8⟩ := hw_2
  have hr_8 : (0 : Int) ≤ r_1.toInt ∧ r_1.toInt ≤ 12 := hr_8
  refine lv_istore_n (lv' := [(1, .int r_1), (0, .ref (g 36))]) hx hb dX12_bound_4 rfl hl (by decide) rfl (fun ls hl => ?_)
  refine lv_iload_n hx hb dX12_bound_5 rfl (lv_at hl 0 rfl) ?_
  refine lv_iconst (v := 1) hx hb dX12_bound_6 (by decide) ?_
  refine lv_icmp_eq (tgt := 21) hx hb dX12_bound_7 (by decide) (fun c_9 => ?_) (fun c_9 => ?_)
  · skip
    have h_10 := s_eq (rfl : r_1.toInt = _) (show (1 : Int32).toInt = 1 from rfl) c_9
    refine lv_iconst (v := 0) hx hb dX12_bound_21 (by decide) ?_
    refine lv_istore_n (lv' := [(2, .int 0), (1, .int r_1), (0, .ref (g 36))]) hx hb dX12_bound_22 rfl hl (by decide) rfl (fun ls hl => ?_)
    -- loop at 23
    have lp_11 : ∀ (fuel_lp_11 : Nat) (f : Int32) (j1 : Nat → Nat → Int32) (Lv_12 : Nat → Nat → Int64) (H : Heap) (locs : List Loc) (ls : Array Slot), (12 - f.toInt).toNat < fuel_lp_11 → (0 : Int) ≤ f.toInt ∧ f.toInt ≤ 12 → f.toInt ≤ (i 36 41).toInt → OkI j1 → (∀ a b, ¬ ((a = 36 ∧ (b = 45 ∨ b = 49 ∨ b = 52 ∨ b = 54 ∨ b = 55 ∨ b = 57)) ∨ a = 406 ∨ a = 407 ∨ a = 408 ∨ a = 409 ∨ a = 410 ∨ a = 411 ∨ a = 413 ∨ a = 414 ∨ a = 415) → j1 a b = im_3 a b) → lv_has ls 3 [(2, .int f), (1, .int r_1), (0, .ref (g 36))] → sj_H D A (hwc g ka j1 r Lv_12 d) H → va_S A s.heap H locs → W p l e (headSpec wsX12_bound ({ frames := 7, cells := 0, slots := 0, locals := 165 })).room s m ([.ref (g 36)] : List Value).toArray below meth c H locs 0 0 (MQ below (sj_Qi (S := (Nat → Nat → Int32) × (Nat → Nat → Int64)) D (fun v u => OkI u.1 ∧ (∀ a b, ¬ ((a = 36 ∧ (b = 45 ∨ b = 49 ∨ b = 52 ∨ b = 54 ∨ b = 55 ∨ b = 57)) ∨ a = 406 ∨ a = 407 ∨ a = 408 ∨ a = 409 ∨ a = 410 ∨ a = 411 ∨ a = 413 ∨ a = 414 ∨ a = 415) → u.1 a b = i a b) ∧ ((-2 : Int) ≤ v.toInt ∧ v.toInt ≤ 11) ∧ ((0 ≤ v.toInt → AQ u.1 (bfL i) ∧ v.toInt < (i 36 41).toInt))) (fun u => hwc g ka u.1 r u.2 d) (fun _ => []) A) ([.ref (g 36)] : List Value).toArray s 0 0 A) (F0 m 23 ls []) := by
      intro fuel_lp_11
      induction fuel_lp_11 with
      | zero => intros; omega
      | succ fuel_lp_11 ih_lp_11 =>
        intro f j1 Lv_12 H locs ls hm hr_f hi_lp_11_0 hO_j1 hfr_j1 hl hH hS
        refine lv_iload_n hx hb dX12_bound_23 rfl (lv_at hl 0 rfl) ?_
        refine lv_aload_n hx hb dX12_bound_24 rfl (lv_at hl 2 rfl) ?_
        have bx_13 : (0 : Int) ≤ (i 36 41).toInt ∧ (i 36 41).toInt ≤ 12 := hO 36 41
        refine h_geti (ci := 12) (C := RX12) (F := TX12) (N := 86) hx hb hts in12 hown hK hH (by decide) (rfl : kd 36 = 12) (by decide) rfl 41 (by decide) wd0 (fun _ h9 => h9) (by decide) rfl dX12_bound_25 ?_
        refine sj_i (y := (i 36 41)) ((hfr_j1 36 41 (by omega)).trans (hfr_6 36 41 (by omega))) ?_
        refine lv_icmp_ge (tgt := 47) hx hb dX12_bound_28 (by decide) (fun c_14 => ?_) (fun c_14 => ?_)
        · skip
          have h_15 := s_le (rfl : (i 36 41).toInt = _) (rfl : f.toInt = _) c_14
          refine lv_iconst (v := (-1)) hx hb dX12_bound_47 (by decide) ?_
          have hV_16 : (0 ≤ ((-1) : Int32).toInt → AQ j1 (bfL i) ∧ ((-1) : Int32).toInt < (i 36 41).toInt) := (fun q => absurd q (by decide))
          exact sj_zret hx hb hr hlocks rfl hS (j1, Lv_12) ⟨hO_j1, (fun a b ha => ((hfr_j1 a b (by omega)).trans (hfr_6 a b (by omega)))), ⟨by decide, by decide⟩, hV_16⟩ hH (sj_Knil hK) (Nat.le_of_ble_eq_true rfl) (Nat.le_of_ble_eq_true rfl) dX12_bound_48
        · skip
          have h_17 := s_nle (rfl : (i 36 41).toInt = _) (rfl : f.toInt = _) c_14
          refine lv_aload_n hx hb dX12_bound_31 rfl (lv_at hl 2 rfl) ?_
          refine lv_iload_n hx hb dX12_bound_32 rfl (lv_at hl 0 rfl) ?_
          refine x_calli (va_runV (As := [.int f]) (rest := []) ⟨hx, hb, hml, hown, hts⟩ (m_fits l D g ka ad j1 r Lv_12 d f hO_j1 hR H.size (by first | omega | decide) (by first | omega | decide) (DI_at (DI_fr hdi ((hfr_j1 36 41 (by omega)).trans (hfr_6 36 41 (by omega))) (funext fun b9 => ((hfr_j1 403 b9 (by omega)).trans (hfr_6 403 b9 (by omega)))) (funext fun b9 => ((hfr_j1 404 b9 (by omega)).trans (hfr_6 404 b9 (by omega))))) (by omega) (by first | omega | (rw [show j1 36 41 = i 36 41 from ((hfr_j1 36 41 (by omega)).trans (hfr_6 36 41 (by omega)))]; omega)))) (cwV 1 hts gX12_bound_X12_fits rfl rfl rfl (by decide +kernel) ⟨(Nat.le_of_ble_eq_true rfl), (Nat.le_of_ble_eq_true rfl)⟩) (x_preV (q := (RX12, TX12, 86)) hH hK (q_obj (by decide) (rfl : kd 36 = 12) (by decide)) rfl gxb (gxw hE hS (x_F hH hS hA))) rfl rfl hl.1 rfl (lv_room (Nat.le_of_ble_eq_true rfl)) dX12_bound_33 ⟨(Nat.le_of_ble_eq_true rfl), (Nat.le_of_ble_eq_true rfl)⟩) hH hS hA rfl rfl (fun r_18 u_22 H locs hw_19 hH hS => ?_)
          obtain ⟨im_20, Lm_21⟩ := u_22
          try dsimp only at hw_19
          have hH : sj_H D A (hwc g ka im_20 r Lm_21 d) H := hH
          obtain ⟨hO_24, hfr_23, hr_25, hx2_26⟩ := hw_19
          have hr_25 : (0 : Int) ≤ r_18.toInt ∧ r_18.toInt ≤ 1 := hr_25
          refine lv_if_eq (tgt := 41) hx hb dX12_bound_36 (by decide) (fun c_27 => ?_) (fun c_27 => ?_)
          · skip
            have h_28 := s_eq (rfl : r_18.toInt = _) (show (0 : Int32).toInt = 0 from rfl) c_27
            obtain ⟨z_29, ez_29, hz_29⟩ := s_add (rfl : f.toInt = _) (show (1 : Int32).toInt = 1 from rfl) (by omega) (by omega)
            refine lv_iinc (v := z_29) (lv' := [(2, .int z_29), (1, .int r_1), (0, .ref (g 36))]) hx hb dX12_bound_41 hl (k := 0) rfl ez_29 (by decide) rfl (fun ls hl => ?_)
            refine lv_goto (tgt := 23) hx hb dX12_bound_44 (by decide) ?_
            exact ih_lp_11 z_29 _ _ _ _ ls (by omega) (by omega) (by omega) hO_24 (fun a b ha => ((hfr_23 a b (by omega)).trans (hfr_j1 a b (by omega)))) (lv_sub hl [0, 1, 2] rfl) hH hS
          · skip
            have h_30 := s_ne (rfl : r_18.toInt = _) (show (0 : Int32).toInt = 0 from rfl) c_27
            refine lv_iload_n hx hb dX12_bound_39 rfl (lv_at hl 0 rfl) ?_
            have hV_31 : (0 ≤ (f : Int32).toInt → AQ im_20 (bfL i) ∧ (f : Int32).toInt < (i 36 41).toInt) := (fun _ => ⟨(by rw [← bfL_fr (i := i) (u := j1) ((hfr_j1 36 40 (by omega)).trans (hfr_6 36 40 (by omega))) (funext fun b9 => ((hfr_j1 402 b9 (by omega)).trans (hfr_6 402 b9 (by omega))))]; exact hx2_26 (by omega)), by omega⟩)
            exact sj_zret hx hb hr hlocks rfl hS (im_20, Lm_21) ⟨hO_24, (fun a b ha => ((hfr_23 a b (by omega)).trans ((hfr_j1 a b (by omega)).trans (hfr_6 a b (by omega))))), ⟨by omega, by omega⟩, hV_31⟩ hH (sj_Knil hK) (Nat.le_of_ble_eq_true rfl) (Nat.le_of_ble_eq_true rfl) dX12_bound_40
    have hl_32 : (0 : Int32).toInt = 0 := rfl
    exact lp_11 _ 0 _ _ _ _ ls (Nat.lt_succ_self _) (by omega) (by omega) hO_7 (fun a b ha => rfl) (lv_sub hl [0, 1, 2] rfl) hH hS
  · skip
    have h_33 := s_ne (rfl : r_1.toInt = _) (show (1 : Int32).toInt = 1 from rfl) c_9
    refine lv_iload_n hx hb dX12_bound_10 rfl (lv_at hl 0 rfl) ?_
    refine lv_if_ne (tgt := 18) hx hb dX12_bound_11 (by decide) (fun c_34 => ?_) (fun c_34 => ?_)
    · skip
      have h_35 := s_ne (rfl : r_1.toInt = _) (show (0 : Int32).toInt = 0 from rfl) c_34
      refine lv_bipush (v := (-2)) hx hb dX12_bound_18 (by decide) ?_
      have hV_36 : (0 ≤ ((-2) : Int32).toInt → AQ im_3 (bfL i) ∧ ((-2) : Int32).toInt < (i 36 41).toInt) := (fun q => absurd q (by decide))
      exact sj_zret hx hb hr hlocks rfl hS (im_3, Lm_4) ⟨hO_7, (fun a b ha => (hfr_6 a b (by omega))), ⟨by decide, by decide⟩, hV_36⟩ hH (sj_Knil hK) (Nat.le_of_ble_eq_true rfl) (Nat.le_of_ble_eq_true rfl) dX12_bound_20
    · skip
      have h_37 := s_eq (rfl : r_1.toInt = _) (show (0 : Int32).toInt = 0 from rfl) c_34
      refine lv_iconst (v := (-1)) hx hb dX12_bound_14 (by decide) ?_
      refine lv_goto (tgt := 20) hx hb dX12_bound_15 (by decide) ?_
      have hV_38 : (0 ≤ ((-1) : Int32).toInt → AQ im_3 (bfL i) ∧ ((-1) : Int32).toInt < (i 36 41).toInt) := (fun q => absurd q (by decide))
      exact sj_zret hx hb hr hlocks rfl hS (im_3, Lm_4) ⟨hO_7, (fun a b ha => (hfr_6 a b (by omega))), ⟨by decide, by decide⟩, hV_38⟩ hH (sj_Knil hK) (Nat.le_of_ble_eq_true rfl) (Nat.le_of_ble_eq_true rfl) dX12_bound_20
set_option maxHeartbeats 2000000 in
set_option maxRecDepth 100000 in
theorem m_define1 (l : Launch) (D : va_G) (g : Nat → Nat) (ka : Nat → ClassId) (ad : Nat → Nat) (i : Nat → Nat → Int32) (r : Nat → Nat → Nat) (L : Nat → Nat → Int64) (d : Nat → Nat → UInt64) (x : Int32) (hO : OkI i) (hR : RS r) (sz : Nat) (hb76 : (i 36 76).toInt = 0) (hdi : DI i) : Met l yX12_define wsX12_define ({ frames := 3, cells := 0, slots := 0, locals := 72 }) (va_Pc [.ref (g 36), .int x] (sj_B D (hwc g ka i r L d) (hT ka) sz (gx ad (va_A (hwc g ka i r L d) sz)))) (sj_Qi (S := (Nat → Nat → Int32)) D (fun v u => OkI u ∧ (∀ a b, ¬ ((a = 36 ∧ (b = 0 ∨ b = 2 ∨ b = 41 ∨ b = 45 ∨ b = 49 ∨ b = 52 ∨ b = 54 ∨ b = 55)) ∨ a = 403 ∨ a = 404 ∨ a = 405 ∨ a = 406 ∨ a = 407 ∨ a = 408 ∨ a = 409 ∨ a = 410 ∨ a = 411) → u a b = i a b) ∧ ((u 36 2).toInt = 0) ∧ (DI u)) (fun u => hwc g ka u r L d) (fun _ => []) (va_A (hwc g ka i r L d) sz)) 0 0 (va_A (hwc g ka i r L d) sz) := by
  refine x_met (Ex := gx ad) (cc := cX12_define) (maxL := 5) (ret := (some .int)) (by decide) rfl (Nat.le_of_ble_eq_true rfl) ?_
  intro p e s m below meth c A ls hx hb hr hml hts hown hlocks hA hS hH hK hE hl
  have hown : s.vm.findClass RX12 = some m.cls := hown
  have in12 : ∀ w ∈ wsX120, w ∈ wsX12_define := (fun _ h => (List.mem_cons_of_mem _ (List.mem_append_right _ h)))
  have wd0 := hts (.fieldLink RX12 12 "StoryDeskModel" "text" "[C") (List.mem_cons_of_mem _ (List.mem_append_left _ (List.mem_append_left _ lm0)))
  have wd1 := hts (.fieldLink RX12 7 "StoryDeskModel" "size" "I") (List.mem_cons_of_mem _ (List.mem_append_left _ (List.mem_append_left _ lm1)))
  have wd2 := hts (.fieldLink RX12 308 "StoryDeskModel" "defined" "I") (List.mem_cons_of_mem _ (List.mem_append_left _ (List.mem_append_left _ lm2)))
  have wd3 := hts (.fieldLink RX12 314 "StoryDeskModel" "writtenSize" "[I") (List.mem_cons_of_mem _ (List.mem_append_left _ (List.mem_append_left _ lm4)))
  have wd4 := hts (.fieldLink RX12 317 "StoryDeskModel" "definitionScript" "[I") (List.mem_cons_of_mem _ (List.mem_append_left _ (List.mem_append_left _ lm5)))
  have wd5 := hts (.fieldLink RX12 311 "StoryDeskModel" "written" "[C") (List.mem_cons_of_mem _ (List.mem_append_left _ (List.mem_append_left _ lm3)))
  have hl : lv_has ls 5 [(0, .ref (g 36)), (1, .int x)] := hl
  have hK : va_K D vwCl (hT ka) s := hK
  have hg_1 := s_rng x
  have hb41 : (0 : Int) ≤ (i 36 41).toInt ∧ (i 36 41).toInt ≤ 12 := hO 36 41
  have hb2 : (0 : Int) ≤ (i 36 2).toInt ∧ (i 36 2).toInt ≤ 480 := hO 36 2
  refine lv_aload_n hx hb dX12_define_0 rfl (lv_at hl 0 rfl) ?_
  refine x_calli (va_runV (As := []) (rest := []) ⟨hx, hb, hml, hown, hts⟩ (m_busy l D g ka ad i r L d  hO hR s.heap.size ) (cwV 0 hts gX12_define_X12_busy rfl rfl rfl (by decide +kernel) ⟨(Nat.le_of_ble_eq_true rfl), (Nat.le_of_ble_eq_true rfl)⟩) (x_preV (q := (RX12, TX12, 86)) hH hK (q_obj (by decide) (rfl : kd 36 = 12) (by decide)) rfl gxb (gxw hE hS (x_F hH hS hA))) rfl rfl hl.1 rfl (lv_room (Nat.le_of_ble_eq_true rfl)) dX12_define_1 ⟨(Nat.le_of_ble_eq_true rfl), (Nat.le_of_ble_eq_true rfl)⟩) hH hS hA rfl rfl (fun r_2 im_4 H locs hw_3 hH hS => ?_)
  have hH : sj_H D A (hwc g ka im_4 r L d) H := hH
  obtain ⟨hO_6, hfr_5, hr_7, he_8⟩ := hw_3
  have hr_7 : (0 : Int) ≤ r_2.toInt ∧ r_2.toInt ≤ 1 := hr_7
  refine lv_if_eq (tgt := 9) hx hb dX12_define_4 (by decide) (fun _ => ?_) (fun h => absurd (p_eq (rfl : r_2.toInt = _) (show (0 : Int32).toInt = 0 from rfl) (by omega)) h)
  refine lv_aload_n hx hb dX12_define_9 rfl (lv_at hl 0 rfl) ?_
  refine lv_aload_n hx hb dX12_define_10 rfl (lv_at hl 0 rfl) ?_
  refine h_getr (ci := 12) (C := RX12) (F := TX12) (N := 86) hx hb hts in12 hown hK hH (by decide) (rfl : kd 36 = 12) (by decide) rfl 1 (by decide) wd0 (fun _ h9 => h9) (by decide) rfl (t := 379) (hR 36 1 rfl) (by decide) dX12_define_11 ?_
  refine lv_iconst (v := 0) hx hb dX12_define_14 (by decide) ?_
  refine lv_aload_n hx hb dX12_define_15 rfl (lv_at hl 0 rfl) ?_
  have bx_9 : (0 : Int) ≤ (i 36 2).toInt ∧ (i 36 2).toInt ≤ 480 := hO 36 2
  refine h_geti (ci := 12) (C := RX12) (F := TX12) (N := 86) hx hb hts in12 hown hK hH (by decide) (rfl : kd 36 = 12) (by decide) rfl 2 (by decide) wd1 (fun _ h9 => h9) (by decide) rfl dX12_define_16 ?_
  refine sj_i (y := (i 36 2)) (hfr_5 36 2 (by omega)) ?_
  have hl_10 : (0 : Int32).toInt = 0 := rfl
  refine x_calli (va_runV (As := [.ref (g 379), .int 0, .int (i 36 2)]) (rest := []) ⟨hx, hb, hml, hown, hts⟩ (m_parse_T l D g ka ad im_4 r L d 0 (i 36 2) hO_6 hR H.size (by first | omega | decide) (by first | omega | decide) (by first | omega | decide)) (cwV 3 hts gX12_define_X12_parse rfl rfl rfl (by decide +kernel) ⟨(Nat.le_of_ble_eq_true rfl), (Nat.le_of_ble_eq_true rfl)⟩) (x_preV (q := (RX12, TX12, 86)) hH hK (q_obj (by decide) (rfl : kd 36 = 12) (by decide)) rfl gxb (gxw hE hS (x_F hH hS hA))) rfl rfl hl.1 rfl (lv_room (Nat.le_of_ble_eq_true rfl)) dX12_define_19 ⟨(Nat.le_of_ble_eq_true rfl), (Nat.le_of_ble_eq_true rfl)⟩) hH hS hA rfl rfl (fun r_11 im_13 H locs hw_12 hH hS => ?_)
  have hH : sj_H D A (hwc g ka im_13 r L d) H := hH
  obtain ⟨hO_15, hfr_14, hr_16, hx2_17⟩ := hw_12
  have hr_16 : (0 : Int) ≤ r_11.toInt ∧ r_11.toInt ≤ 1 := hr_16
  have hpr := hx2_17
  refine lv_if_eq (tgt := 39) hx hb dX12_define_22 (by decide) (fun c_18 => ?_) (fun c_18 => ?_)
  · skip
    have h_19 := s_eq (rfl : r_11.toInt = _) (show (0 : Int32).toInt = 0 from rfl) c_18
    refine lv_iconst (v := 0) hx hb dX12_define_39 (by decide) ?_
    refine lv_istore_n (lv' := [(2, .int 0), (0, .ref (g 36)), (1, .int x)]) hx hb dX12_define_40 rfl hl (by decide) rfl (fun ls hl => ?_)
    refine lv_aload_n hx hb dX12_define_41 rfl (lv_at hl 1 rfl) ?_
    refine h_geti (ci := 12) (C := RX12) (F := TX12) (N := 86) hx hb hts in12 hown hK hH (by decide) (rfl : kd 36 = 12) (by decide) rfl 2 (by decide) wd1 (fun _ h9 => h9) (by decide) rfl dX12_define_42 ?_
    refine sj_i (y := (i 36 2)) ((hfr_14 36 2 (by omega)).trans (hfr_5 36 2 (by omega))) ?_
    refine lv_istore_n (lv' := [(3, .int (i 36 2)), (2, .int 0), (0, .ref (g 36)), (1, .int x)]) hx hb dX12_define_45 rfl hl (by decide) rfl (fun ls hl => ?_)
    refine lv_aload_n hx hb dX12_define_46 rfl (lv_at hl 2 rfl) ?_
    refine lv_iconst (v := 0) hx hb dX12_define_47 (by decide) ?_
    have hO_20 := okp hO_15 (n := 36) (k := 2) (v := 0) (show (0 : Int) ≤ (0 : Int32).toInt ∧ (0 : Int32).toInt ≤ 480 from ⟨by decide, by decide⟩)
    refine h_puti (ty := .int) (ci := 12) (C := RX12) (F := TX12) (N := 86) hx hb hts in12 tyX12 tyX12_ok nmX12 hown hK hH hS (by decide) (rfl : kd 36 = 12) (by decide) rfl 2 (by decide) wd1 (fun _ h9 => h9) rfl (by decide +kernel) rfl rfl (by decide) rfl dX12_define_48 (fun H locs hH hS => ?_)
    refine lv_aload_n hx hb dX12_define_51 rfl (lv_at hl 2 rfl) ?_
    refine lv_iload_n hx hb dX12_define_52 rfl (lv_at hl 1 rfl) ?_
    refine lv_if_ne (tgt := 60) hx hb dX12_define_53 (by decide) (fun h => absurd (by decide) h) (fun _ => ?_)
    refine lv_iconst (v := 2) hx hb dX12_define_56 (by decide) ?_
    refine lv_goto (tgt := 74) hx hb dX12_define_57 (by decide) ?_
    have hl_21 : (2 : Int32).toInt = 2 := rfl
    refine x_calli (va_runV (As := [.int 2]) (rest := []) ⟨hx, hb, hml, hown, hts⟩ (m_throwsNow l D g ka ad (up2 im_13 36 2 0) r L d 2 hO_20 hR H.size (by first | omega | decide) (by first | omega | decide)) (cwV 1 hts gX12_define_X12_throwsNow rfl rfl rfl (by decide +kernel) ⟨(Nat.le_of_ble_eq_true rfl), (Nat.le_of_ble_eq_true rfl)⟩) (x_preV (q := (RX12, TX12, 86)) hH hK (q_obj (by decide) (rfl : kd 36 = 12) (by decide)) rfl gxb (gxw hE hS (x_F hH hS hA))) rfl rfl hl.1 rfl (lv_room (Nat.le_of_ble_eq_true rfl)) dX12_define_74 ⟨(Nat.le_of_ble_eq_true rfl), (Nat.le_of_ble_eq_true rfl)⟩) hH hS hA rfl rfl (fun r_22 im_24 H locs hw_23 hH hS => ?_)
    have hH : sj_H D A (hwc g ka im_24 r L d) H := hH
    obtain ⟨hO_26, hfr_25, hr_27, he_28⟩ := hw_23
    have hr_27 : (0 : Int) ≤ r_22.toInt ∧ r_22.toInt ≤ 1 := hr_27
    refine lv_if_eq (tgt := 82) hx hb dX12_define_77 (by decide) (fun c_29 => ?_) (fun c_29 => ?_)
    · skip
      have h_30 := s_eq (rfl : r_22.toInt = _) (show (0 : Int32).toInt = 0 from rfl) c_29
      exfalso; omega
    · skip
      have h_31 := s_ne (rfl : r_22.toInt = _) (show (0 : Int32).toInt = 0 from rfl) c_29
      refine lv_iconst (v := 0) hx hb dX12_define_80 (by decide) ?_
      have hp_32 : (im_24 36 2).toInt = (0 : Int32).toInt := congrArg Int32.toInt (((hfr_25 36 2 (by omega)).trans (up2_at _ _ _ _)))
      have hl_33 : (0 : Int32).toInt = 0 := rfl
      have hV_34 : (im_24 36 2).toInt = 0 := (by omega)
      have hV_35 : DI im_24 := (DI_fr hdi ((hfr_25 36 41 (by omega)).trans ((up2_o _ _ (by omega)).trans ((hfr_14 36 41 (by omega)).trans (hfr_5 36 41 (by omega))))) (funext fun b9 => ((hfr_25 403 b9 (by omega)).trans ((up2_o _ _ (by omega)).trans ((hfr_14 403 b9 (by omega)).trans (hfr_5 403 b9 (by omega)))))) (funext fun b9 => ((hfr_25 404 b9 (by omega)).trans ((up2_o _ _ (by omega)).trans ((hfr_14 404 b9 (by omega)).trans (hfr_5 404 b9 (by omega)))))))
      exact sj_zret hx hb hr hlocks rfl hS im_24 ⟨hO_26, (fun a b ha => ((hfr_25 a b (by omega)).trans ((up2_o _ _ (by omega)).trans ((hfr_14 a b (by omega)).trans (hfr_5 a b (by omega)))))), hV_34, hV_35⟩ hH (sj_Knil hK) (Nat.le_of_ble_eq_true rfl) (Nat.le_of_ble_eq_true rfl) dX12_define_81
  · skip
    have h_36 := s_ne (rfl : r_11.toInt = _) (show (0 : Int32).toInt = 0 from rfl) c_18
    have hpk : prOK (lnL (i 379) 0 (i 36 2).toInt) := by
      have h9 := (hpr.resolve_right (fun q => by have := q.1; omega)).2.1
      rw [show im_4 379 = i 379 from funext fun b9 => (hfr_5 379 b9 (by omega)), show (0 : Int32).toInt + ((i 36 2) : Int32).toInt = (i 36 2).toInt by have h8 : (0 : Int32).toInt = 0 := rfl; omega] at h9
      exact h9
    have hpl := hpk.2.1
    have hpl2 := lnL_len (f := i 379) (show 0 ≤ (i 36 2).toInt by omega)
    have h60 : (i 36 2).toInt ≤ 60 := by omega
    refine lv_iload_n hx hb dX12_define_25 rfl (lv_at hl 1 rfl) ?_
    refine lv_if_lt (tgt := 39) hx hb dX12_define_26 (by decide) (fun c_37 => ?_) (fun c_37 => ?_)
    · skip
      have h_38 := s_lt (rfl : x.toInt = _) (show (0 : Int32).toInt = 0 from rfl) c_37
      refine lv_iconst (v := 0) hx hb dX12_define_39 (by decide) ?_
      refine lv_istore_n (lv' := [(2, .int 0), (0, .ref (g 36)), (1, .int x)]) hx hb dX12_define_40 rfl hl (by decide) rfl (fun ls hl => ?_)
      refine lv_aload_n hx hb dX12_define_41 rfl (lv_at hl 1 rfl) ?_
      refine h_geti (ci := 12) (C := RX12) (F := TX12) (N := 86) hx hb hts in12 hown hK hH (by decide) (rfl : kd 36 = 12) (by decide) rfl 2 (by decide) wd1 (fun _ h9 => h9) (by decide) rfl dX12_define_42 ?_
      refine sj_i (y := (i 36 2)) ((hfr_14 36 2 (by omega)).trans (hfr_5 36 2 (by omega))) ?_
      refine lv_istore_n (lv' := [(3, .int (i 36 2)), (2, .int 0), (0, .ref (g 36)), (1, .int x)]) hx hb dX12_define_45 rfl hl (by decide) rfl (fun ls hl => ?_)
      refine lv_aload_n hx hb dX12_define_46 rfl (lv_at hl 2 rfl) ?_
      refine lv_iconst (v := 0) hx hb dX12_define_47 (by decide) ?_
      have hO_39 := okp hO_15 (n := 36) (k := 2) (v := 0) (show (0 : Int) ≤ (0 : Int32).toInt ∧ (0 : Int32).toInt ≤ 480 from ⟨by decide, by decide⟩)
      refine h_puti (ty := .int) (ci := 12) (C := RX12) (F := TX12) (N := 86) hx hb hts in12 tyX12 tyX12_ok nmX12 hown hK hH hS (by decide) (rfl : kd 36 = 12) (by decide) rfl 2 (by decide) wd1 (fun _ h9 => h9) rfl (by decide +kernel) rfl rfl (by decide) rfl dX12_define_48 (fun H locs hH hS => ?_)
      refine lv_aload_n hx hb dX12_define_51 rfl (lv_at hl 2 rfl) ?_
      refine lv_iload_n hx hb dX12_define_52 rfl (lv_at hl 1 rfl) ?_
      refine lv_if_ne (tgt := 60) hx hb dX12_define_53 (by decide) (fun h => absurd (by decide) h) (fun _ => ?_)
      refine lv_iconst (v := 2) hx hb dX12_define_56 (by decide) ?_
      refine lv_goto (tgt := 74) hx hb dX12_define_57 (by decide) ?_
      have hl_40 : (2 : Int32).toInt = 2 := rfl
      refine x_calli (va_runV (As := [.int 2]) (rest := []) ⟨hx, hb, hml, hown, hts⟩ (m_throwsNow l D g ka ad (up2 im_13 36 2 0) r L d 2 hO_39 hR H.size (by first | omega | decide) (by first | omega | decide)) (cwV 1 hts gX12_define_X12_throwsNow rfl rfl rfl (by decide +kernel) ⟨(Nat.le_of_ble_eq_true rfl), (Nat.le_of_ble_eq_true rfl)⟩) (x_preV (q := (RX12, TX12, 86)) hH hK (q_obj (by decide) (rfl : kd 36 = 12) (by decide)) rfl gxb (gxw hE hS (x_F hH hS hA))) rfl rfl hl.1 rfl (lv_room (Nat.le_of_ble_eq_true rfl)) dX12_define_74 ⟨(Nat.le_of_ble_eq_true rfl), (Nat.le_of_ble_eq_true rfl)⟩) hH hS hA rfl rfl (fun r_41 im_43 H locs hw_42 hH hS => ?_)
      have hH : sj_H D A (hwc g ka im_43 r L d) H := hH
      obtain ⟨hO_45, hfr_44, hr_46, he_47⟩ := hw_42
      have hr_46 : (0 : Int) ≤ r_41.toInt ∧ r_41.toInt ≤ 1 := hr_46
      refine lv_if_eq (tgt := 82) hx hb dX12_define_77 (by decide) (fun c_48 => ?_) (fun c_48 => ?_)
      · skip
        have h_49 := s_eq (rfl : r_41.toInt = _) (show (0 : Int32).toInt = 0 from rfl) c_48
        exfalso; omega
      · skip
        have h_50 := s_ne (rfl : r_41.toInt = _) (show (0 : Int32).toInt = 0 from rfl) c_48
        refine lv_iconst (v := 0) hx hb dX12_define_80 (by decide) ?_
        have hp_51 : (im_43 36 2).toInt = (0 : Int32).toInt := congrArg Int32.toInt (((hfr_44 36 2 (by omega)).trans (up2_at _ _ _ _)))
        have hl_52 : (0 : Int32).toInt = 0 := rfl
        have hV_53 : (im_43 36 2).toInt = 0 := (by omega)
        have hV_54 : DI im_43 := (DI_fr hdi ((hfr_44 36 41 (by omega)).trans ((up2_o _ _ (by omega)).trans ((hfr_14 36 41 (by omega)).trans (hfr_5 36 41 (by omega))))) (funext fun b9 => ((hfr_44 403 b9 (by omega)).trans ((up2_o _ _ (by omega)).trans ((hfr_14 403 b9 (by omega)).trans (hfr_5 403 b9 (by omega)))))) (funext fun b9 => ((hfr_44 404 b9 (by omega)).trans ((up2_o _ _ (by omega)).trans ((hfr_14 404 b9 (by omega)).trans (hfr_5 404 b9 (by omega)))))))
        exact sj_zret hx hb hr hlocks rfl hS im_43 ⟨hO_45, (fun a b ha => ((hfr_44 a b (by omega)).trans ((up2_o _ _ (by omega)).trans ((hfr_14 a b (by omega)).trans (hfr_5 a b (by omega)))))), hV_53, hV_54⟩ hH (sj_Knil hK) (Nat.le_of_ble_eq_true rfl) (Nat.le_of_ble_eq_true rfl) dX12_define_81
    · skip
      have h_55 := s_nlt (rfl : x.toInt = _) (show (0 : Int32).toInt = 0 from rfl) c_37
      refine lv_iload_n hx hb dX12_define_29 rfl (lv_at hl 1 rfl) ?_
      refine lv_bipush (v := 8) hx hb dX12_define_30 (by decide) ?_
      refine lv_icmp_ge (tgt := 39) hx hb dX12_define_32 (by decide) (fun c_56 => ?_) (fun c_56 => ?_)
      · skip
        have h_57 := s_le (show (8 : Int32).toInt = 8 from rfl) (rfl : x.toInt = _) c_56
        refine lv_iconst (v := 0) hx hb dX12_define_39 (by decide) ?_
        refine lv_istore_n (lv' := [(2, .int 0), (0, .ref (g 36)), (1, .int x)]) hx hb dX12_define_40 rfl hl (by decide) rfl (fun ls hl => ?_)
        refine lv_aload_n hx hb dX12_define_41 rfl (lv_at hl 1 rfl) ?_
        refine h_geti (ci := 12) (C := RX12) (F := TX12) (N := 86) hx hb hts in12 hown hK hH (by decide) (rfl : kd 36 = 12) (by decide) rfl 2 (by decide) wd1 (fun _ h9 => h9) (by decide) rfl dX12_define_42 ?_
        refine sj_i (y := (i 36 2)) ((hfr_14 36 2 (by omega)).trans (hfr_5 36 2 (by omega))) ?_
        refine lv_istore_n (lv' := [(3, .int (i 36 2)), (2, .int 0), (0, .ref (g 36)), (1, .int x)]) hx hb dX12_define_45 rfl hl (by decide) rfl (fun ls hl => ?_)
        refine lv_aload_n hx hb dX12_define_46 rfl (lv_at hl 2 rfl) ?_
        refine lv_iconst (v := 0) hx hb dX12_define_47 (by decide) ?_
        have hO_58 := okp hO_15 (n := 36) (k := 2) (v := 0) (show (0 : Int) ≤ (0 : Int32).toInt ∧ (0 : Int32).toInt ≤ 480 from ⟨by decide, by decide⟩)
        refine h_puti (ty := .int) (ci := 12) (C := RX12) (F := TX12) (N := 86) hx hb hts in12 tyX12 tyX12_ok nmX12 hown hK hH hS (by decide) (rfl : kd 36 = 12) (by decide) rfl 2 (by decide) wd1 (fun _ h9 => h9) rfl (by decide +kernel) rfl rfl (by decide) rfl dX12_define_48 (fun H locs hH hS => ?_)
        refine lv_aload_n hx hb dX12_define_51 rfl (lv_at hl 2 rfl) ?_
        refine lv_iload_n hx hb dX12_define_52 rfl (lv_at hl 1 rfl) ?_
        refine lv_if_ne (tgt := 60) hx hb dX12_define_53 (by decide) (fun h => absurd (by decide) h) (fun _ => ?_)
        refine lv_iconst (v := 2) hx hb dX12_define_56 (by decide) ?_
        refine lv_goto (tgt := 74) hx hb dX12_define_57 (by decide) ?_
        have hl_59 : (2 : Int32).toInt = 2 := rfl
        refine x_calli (va_runV (As := [.int 2]) (rest := []) ⟨hx, hb, hml, hown, hts⟩ (m_throwsNow l D g ka ad (up2 im_13 36 2 0) r L d 2 hO_58 hR H.size (by first | omega | decide) (by first | omega | decide)) (cwV 1 hts gX12_define_X12_throwsNow rfl rfl rfl (by decide +kernel) ⟨(Nat.le_of_ble_eq_true rfl), (Nat.le_of_ble_eq_true rfl)⟩) (x_preV (q := (RX12, TX12, 86)) hH hK (q_obj (by decide) (rfl : kd 36 = 12) (by decide)) rfl gxb (gxw hE hS (x_F hH hS hA))) rfl rfl hl.1 rfl (lv_room (Nat.le_of_ble_eq_true rfl)) dX12_define_74 ⟨(Nat.le_of_ble_eq_true rfl), (Nat.le_of_ble_eq_true rfl)⟩) hH hS hA rfl rfl (fun r_60 im_62 H locs hw_61 hH hS => ?_)
        have hH : sj_H D A (hwc g ka im_62 r L d) H := hH
        obtain ⟨hO_64, hfr_63, hr_65, he_66⟩ := hw_61
        have hr_65 : (0 : Int) ≤ r_60.toInt ∧ r_60.toInt ≤ 1 := hr_65
        refine lv_if_eq (tgt := 82) hx hb dX12_define_77 (by decide) (fun c_67 => ?_) (fun c_67 => ?_)
        · skip
          have h_68 := s_eq (rfl : r_60.toInt = _) (show (0 : Int32).toInt = 0 from rfl) c_67
          exfalso; omega
        · skip
          have h_69 := s_ne (rfl : r_60.toInt = _) (show (0 : Int32).toInt = 0 from rfl) c_67
          refine lv_iconst (v := 0) hx hb dX12_define_80 (by decide) ?_
          have hp_70 : (im_62 36 2).toInt = (0 : Int32).toInt := congrArg Int32.toInt (((hfr_63 36 2 (by omega)).trans (up2_at _ _ _ _)))
          have hl_71 : (0 : Int32).toInt = 0 := rfl
          have hV_72 : (im_62 36 2).toInt = 0 := (by omega)
          have hV_73 : DI im_62 := (DI_fr hdi ((hfr_63 36 41 (by omega)).trans ((up2_o _ _ (by omega)).trans ((hfr_14 36 41 (by omega)).trans (hfr_5 36 41 (by omega))))) (funext fun b9 => ((hfr_63 403 b9 (by omega)).trans ((up2_o _ _ (by omega)).trans ((hfr_14 403 b9 (by omega)).trans (hfr_5 403 b9 (by omega)))))) (funext fun b9 => ((hfr_63 404 b9 (by omega)).trans ((up2_o _ _ (by omega)).trans ((hfr_14 404 b9 (by omega)).trans (hfr_5 404 b9 (by omega)))))))
          exact sj_zret hx hb hr hlocks rfl hS im_62 ⟨hO_64, (fun a b ha => ((hfr_63 a b (by omega)).trans ((up2_o _ _ (by omega)).trans ((hfr_14 a b (by omega)).trans (hfr_5 a b (by omega)))))), hV_72, hV_73⟩ hH (sj_Knil hK) (Nat.le_of_ble_eq_true rfl) (Nat.le_of_ble_eq_true rfl) dX12_define_81
      · skip
        have h_74 := s_nle (show (8 : Int32).toInt = 8 from rfl) (rfl : x.toInt = _) c_56
        refine lv_iconst (v := 1) hx hb dX12_define_35 (by decide) ?_
        refine lv_goto (tgt := 40) hx hb dX12_define_36 (by decide) ?_
        refine lv_istore_n (lv' := [(2, .int 1), (0, .ref (g 36)), (1, .int x)]) hx hb dX12_define_40 rfl hl (by decide) rfl (fun ls hl => ?_)
        refine lv_aload_n hx hb dX12_define_41 rfl (lv_at hl 1 rfl) ?_
        refine h_geti (ci := 12) (C := RX12) (F := TX12) (N := 86) hx hb hts in12 hown hK hH (by decide) (rfl : kd 36 = 12) (by decide) rfl 2 (by decide) wd1 (fun _ h9 => h9) (by decide) rfl dX12_define_42 ?_
        refine sj_i (y := (i 36 2)) ((hfr_14 36 2 (by omega)).trans (hfr_5 36 2 (by omega))) ?_
        refine lv_istore_n (lv' := [(3, .int (i 36 2)), (2, .int 1), (0, .ref (g 36)), (1, .int x)]) hx hb dX12_define_45 rfl hl (by decide) rfl (fun ls hl => ?_)
        refine lv_aload_n hx hb dX12_define_46 rfl (lv_at hl 2 rfl) ?_
        refine lv_iconst (v := 0) hx hb dX12_define_47 (by decide) ?_
        have hO_75 := okp hO_15 (n := 36) (k := 2) (v := 0) (show (0 : Int) ≤ (0 : Int32).toInt ∧ (0 : Int32).toInt ≤ 480 from ⟨by decide, by decide⟩)
        refine h_puti (ty := .int) (ci := 12) (C := RX12) (F := TX12) (N := 86) hx hb hts in12 tyX12 tyX12_ok nmX12 hown hK hH hS (by decide) (rfl : kd 36 = 12) (by decide) rfl 2 (by decide) wd1 (fun _ h9 => h9) rfl (by decide +kernel) rfl rfl (by decide) rfl dX12_define_48 (fun H locs hH hS => ?_)
        refine lv_aload_n hx hb dX12_define_51 rfl (lv_at hl 2 rfl) ?_
        refine lv_iload_n hx hb dX12_define_52 rfl (lv_at hl 1 rfl) ?_
        refine lv_if_ne (tgt := 60) hx hb dX12_define_53 (by decide) (fun _ => ?_) (fun h => absurd h (by decide))
        refine lv_aload_n hx hb dX12_define_60 rfl (lv_at hl 2 rfl) ?_
        have bx_76 : (0 : Int) ≤ (i 36 41).toInt ∧ (i 36 41).toInt ≤ 12 := hO 36 41
        refine h_geti (ci := 12) (C := RX12) (F := TX12) (N := 86) hx hb hts in12 hown hK hH (by decide) (rfl : kd 36 = 12) (by decide) rfl 41 (by decide) wd2 (fun _ h9 => h9) (by decide) rfl dX12_define_61 ?_
        refine sj_i (y := (i 36 41)) ((up2_k _ _ (by decide)).trans ((hfr_14 36 41 (by omega)).trans (hfr_5 36 41 (by omega)))) ?_
        refine lv_bipush (v := 12) hx hb dX12_define_64 (by decide) ?_
        refine lv_icmp_ne (tgt := 73) hx hb dX12_define_66 (by decide) (fun c_77 => ?_) (fun c_77 => ?_)
        · skip
          have h_78 := s_ne (rfl : (i 36 41).toInt = _) (show (12 : Int32).toInt = 12 from rfl) c_77
          refine lv_iconst (v := 0) hx hb dX12_define_73 (by decide) ?_
          have hl_79 : (0 : Int32).toInt = 0 := rfl
          refine x_calli (va_runV (As := [.int 0]) (rest := []) ⟨hx, hb, hml, hown, hts⟩ (m_throwsNow l D g ka ad (up2 im_13 36 2 0) r L d 0 hO_75 hR H.size (by first | omega | decide) (by first | omega | decide)) (cwV 1 hts gX12_define_X12_throwsNow rfl rfl rfl (by decide +kernel) ⟨(Nat.le_of_ble_eq_true rfl), (Nat.le_of_ble_eq_true rfl)⟩) (x_preV (q := (RX12, TX12, 86)) hH hK (q_obj (by decide) (rfl : kd 36 = 12) (by decide)) rfl gxb (gxw hE hS (x_F hH hS hA))) rfl rfl hl.1 rfl (lv_room (Nat.le_of_ble_eq_true rfl)) dX12_define_74 ⟨(Nat.le_of_ble_eq_true rfl), (Nat.le_of_ble_eq_true rfl)⟩) hH hS hA rfl rfl (fun r_80 im_82 H locs hw_81 hH hS => ?_)
          have hH : sj_H D A (hwc g ka im_82 r L d) H := hH
          obtain ⟨hO_84, hfr_83, hr_85, he_86⟩ := hw_81
          have hr_85 : (0 : Int) ≤ r_80.toInt ∧ r_80.toInt ≤ 1 := hr_85
          refine lv_if_eq (tgt := 82) hx hb dX12_define_77 (by decide) (fun c_87 => ?_) (fun c_87 => ?_)
          · skip
            have h_88 := s_eq (rfl : r_80.toInt = _) (show (0 : Int32).toInt = 0 from rfl) c_87
            refine lv_iconst (v := 0) hx hb dX12_define_82 (by decide) ?_
            refine lv_istore (lv' := [(4, .int 0), (3, .int (i 36 2)), (2, .int 1), (0, .ref (g 36)), (1, .int x)]) hx hb dX12_define_83 hl (by decide) rfl (fun ls hl => ?_)
            -- loop at 85
            have lp_89 : ∀ (fuel_lp_89 : Nat) (f : Int32) (j1 : Nat → Nat → Int32) (H : Heap) (locs : List Loc) (ls : Array Slot), (60 - f.toInt).toNat < fuel_lp_89 → (0 : Int) ≤ f.toInt ∧ f.toInt ≤ 60 → f.toInt ≤ (i 36 2).toInt → (∀ k : Nat, (k : Int) < f.toInt → (j1 403 ((60 * (i 36 41).toInt).toNat + k)).toInt = (i 379 k).toInt) → (∀ k : Nat, ((k : Int) < 60 * (i 36 41).toInt ∨ 60 * (i 36 41).toInt + 60 ≤ (k : Int)) → j1 403 k = i 403 k) → OkI j1 → (∀ a b, ¬ (a = 403) → j1 a b = im_82 a b) → lv_has ls 5 [(4, .int f), (3, .int (i 36 2)), (2, .int 1), (0, .ref (g 36)), (1, .int x)] → sj_H D A (hwc g ka j1 r L d) H → va_S A s.heap H locs → W p l e (headSpec wsX12_define ({ frames := 3, cells := 0, slots := 0, locals := 72 })).room s m ([.ref (g 36), .int x] : List Value).toArray below meth c H locs 0 0 (MQ below (sj_Qi (S := (Nat → Nat → Int32)) D (fun v u => OkI u ∧ (∀ a b, ¬ ((a = 36 ∧ (b = 0 ∨ b = 2 ∨ b = 41 ∨ b = 45 ∨ b = 49 ∨ b = 52 ∨ b = 54 ∨ b = 55)) ∨ a = 403 ∨ a = 404 ∨ a = 405 ∨ a = 406 ∨ a = 407 ∨ a = 408 ∨ a = 409 ∨ a = 410 ∨ a = 411) → u a b = i a b) ∧ ((u 36 2).toInt = 0) ∧ (DI u)) (fun u => hwc g ka u r L d) (fun _ => []) A) ([.ref (g 36), .int x] : List Value).toArray s 0 0 A) (F0 m 85 ls []) := by
              intro fuel_lp_89
              induction fuel_lp_89 with
              | zero => intros; omega
              | succ fuel_lp_89 ih_lp_89 =>
                intro f j1 H locs ls hm hr_f hi_lp_89_0 hi_lp_89_1 hi_lp_89_2 hO_j1 hfr_j1 hl hH hS
                refine lv_iload hx hb dX12_define_85 (lv_at hl 0 rfl) ?_
                refine lv_iload_n hx hb dX12_define_87 rfl (lv_at hl 1 rfl) ?_
                refine lv_icmp_ge (tgt := 119) hx hb dX12_define_88 (by decide) (fun c_90 => ?_) (fun c_90 => ?_)
                · skip
                  have h_91 := s_le (rfl : (i 36 2).toInt = _) (rfl : f.toInt = _) c_90
                  refine lv_aload_n hx hb dX12_define_119 rfl (lv_at hl 3 rfl) ?_
                  refine h_getr (ci := 12) (C := RX12) (F := TX12) (N := 86) hx hb hts in12 hown hK hH (by decide) (rfl : kd 36 = 12) (by decide) rfl 43 (by decide) wd3 (fun _ h9 => h9) (by decide) rfl (t := 404) (hR 36 43 rfl) (by decide) dX12_define_120 ?_
                  refine lv_aload_n hx hb dX12_define_123 rfl (lv_at hl 3 rfl) ?_
                  refine h_geti (ci := 12) (C := RX12) (F := TX12) (N := 86) hx hb hts in12 hown hK hH (by decide) (rfl : kd 36 = 12) (by decide) rfl 41 (by decide) wd2 (fun _ h9 => h9) (by decide) rfl dX12_define_124 ?_
                  refine sj_i (y := (i 36 41)) ((hfr_j1 36 41 (by omega)).trans ((hfr_83 36 41 (by omega)).trans ((up2_k _ _ (by decide)).trans ((hfr_14 36 41 (by omega)).trans (hfr_5 36 41 (by omega)))))) ?_
                  refine lv_iload_n hx hb dX12_define_127 rfl (lv_at hl 1 rfl) ?_
                  have hO_92 := okp hO_j1 (n := 404) (k := ((i 36 41).toInt).toNat) (v := (i 36 2)) (show (0 : Int) ≤ ((i 36 2) : Int32).toInt ∧ ((i 36 2) : Int32).toInt ≤ 60 from ⟨by omega, by omega⟩)
                  refine h_iast hx hb hK hH hS (by decide) (rfl : kd 404 = 13) (s_vin (N := 12) (rfl : (i 36 41).toInt = _) (rfl : ln 404 = 12) (by omega) (by omega)) dX12_define_128 (fun H locs hH hS => ?_)
                  rw [s_cl (show (i 36 41).toInt = (i 36 41).toInt by omega)] at hH
                  refine lv_aload_n hx hb dX12_define_129 rfl (lv_at hl 3 rfl) ?_
                  refine h_getr (ci := 12) (C := RX12) (F := TX12) (N := 86) hx hb hts in12 hown hK hH (by decide) (rfl : kd 36 = 12) (by decide) rfl 44 (by decide) wd4 (fun _ h9 => h9) (by decide) rfl (t := 405) (hR 36 44 rfl) (by decide) dX12_define_130 ?_
                  refine lv_aload_n hx hb dX12_define_133 rfl (lv_at hl 3 rfl) ?_
                  refine h_geti (ci := 12) (C := RX12) (F := TX12) (N := 86) hx hb hts in12 hown hK hH (by decide) (rfl : kd 36 = 12) (by decide) rfl 41 (by decide) wd2 (fun _ h9 => h9) (by decide) rfl dX12_define_134 ?_
                  refine sj_i (y := (i 36 41)) ((congrFun (up2_n _ _ (by decide)) _).trans ((hfr_j1 36 41 (by omega)).trans ((hfr_83 36 41 (by omega)).trans ((up2_k _ _ (by decide)).trans ((hfr_14 36 41 (by omega)).trans (hfr_5 36 41 (by omega))))))) ?_
                  refine lv_iload_n hx hb dX12_define_137 rfl (lv_at hl 4 rfl) ?_
                  have hO_93 := okp hO_92 (n := 405) (k := ((i 36 41).toInt).toNat) (v := x) (show (0 : Int) ≤ (x : Int32).toInt ∧ (x : Int32).toInt ≤ 7 from ⟨by omega, by omega⟩)
                  refine h_iast hx hb hK hH hS (by decide) (rfl : kd 405 = 13) (s_vin (N := 12) (rfl : (i 36 41).toInt = _) (rfl : ln 405 = 12) (by omega) (by omega)) dX12_define_138 (fun H locs hH hS => ?_)
                  rw [s_cl (show (i 36 41).toInt = (i 36 41).toInt by omega)] at hH
                  refine lv_aload_n hx hb dX12_define_139 rfl (lv_at hl 3 rfl) ?_
                  refine lv_dup hx hb dX12_define_140 rfl ?_
                  refine h_geti (ci := 12) (C := RX12) (F := TX12) (N := 86) hx hb hts in12 hown hK hH (by decide) (rfl : kd 36 = 12) (by decide) rfl 41 (by decide) wd2 (fun _ h9 => h9) (by decide) rfl dX12_define_141 ?_
                  refine sj_i (y := (i 36 41)) ((congrFun (up2_n _ _ (by decide)) _).trans ((congrFun (up2_n _ _ (by decide)) _).trans ((hfr_j1 36 41 (by omega)).trans ((hfr_83 36 41 (by omega)).trans ((up2_k _ _ (by decide)).trans ((hfr_14 36 41 (by omega)).trans (hfr_5 36 41 (by omega)))))))) ?_
                  refine lv_iconst (v := 1) hx hb dX12_define_144 (by decide) ?_
                  refine lv_iadd hx hb dX12_define_145 ?_
                  obtain ⟨z_94, ez_94, hz_94⟩ := s_add (rfl : (i 36 41).toInt = _) (show (1 : Int32).toInt = 1 from rfl) (by omega) (by omega)
                  refine sj_i ez_94 ?_
                  have hO_95 := okp hO_93 (n := 36) (k := 41) (v := z_94) (show (0 : Int) ≤ (z_94 : Int32).toInt ∧ (z_94 : Int32).toInt ≤ 12 from ⟨by omega, by omega⟩)
                  refine h_puti (ty := .int) (ci := 12) (C := RX12) (F := TX12) (N := 86) hx hb hts in12 tyX12 tyX12_ok nmX12 hown hK hH hS (by decide) (rfl : kd 36 = 12) (by decide) rfl 41 (by decide) wd2 (fun _ h9 => h9) rfl (by decide +kernel) rfl rfl (by decide) rfl dX12_define_146 (fun H locs hH hS => ?_)
                  refine lv_aload_n hx hb dX12_define_149 rfl (lv_at hl 3 rfl) ?_
                  refine h_geti (ci := 12) (C := RX12) (F := TX12) (N := 86) hx hb hts in12 hown hK hH (by decide) (rfl : kd 36 = 12) (by decide) rfl 41 (by decide) wd2 (fun _ h9 => h9) (by decide) rfl dX12_define_150 ?_
                  refine sj_i (y := z_94) (up2_at _ _ _ _) ?_
                  refine lv_iconst (v := 1) hx hb dX12_define_153 (by decide) ?_
                  refine lv_isub hx hb dX12_define_154 ?_
                  obtain ⟨z_96, ez_96, hz_96⟩ := s_sub (rfl : z_94.toInt = _) (show (1 : Int32).toInt = 1 from rfl) (by omega) (by omega)
                  refine sj_i ez_96 ?_
                  have hp_97 : ((up2 (up2 (up2 j1 404 ((i 36 41).toInt).toNat (i 36 2)) 405 ((i 36 41).toInt).toNat x) 36 41 z_94) 36 2).toInt = (0 : Int32).toInt := congrArg Int32.toInt (((up2_k _ _ (by decide)).trans ((congrFun (up2_n _ _ (by decide)) _).trans ((congrFun (up2_n _ _ (by decide)) _).trans ((hfr_j1 36 2 (by omega)).trans ((hfr_83 36 2 (by omega)).trans (up2_at _ _ _ _)))))))
                  have hl_98 : (0 : Int32).toInt = 0 := rfl
                  have hV_99 : ((up2 (up2 (up2 j1 404 ((i 36 41).toInt).toNat (i 36 2)) 405 ((i 36 41).toInt).toNat x) 36 41 z_94) 36 2).toInt = 0 := (by omega)
                  have hp_100 : ((up2 (up2 (up2 j1 404 ((i 36 41).toInt).toNat (i 36 2)) 405 ((i 36 41).toInt).toNat x) 36 41 z_94) 36 41).toInt = (z_94 : Int32).toInt := congrArg Int32.toInt ((up2_at _ _ _ _))
                  have hq4 : ((up2 (up2 (up2 j1 404 ((i 36 41).toInt).toNat (i 36 2)) 405 ((i 36 41).toInt).toNat x) 36 41 z_94) 404 (i 36 41).toInt.toNat).toInt = ((i 36 2) : Int32).toInt := congrArg Int32.toInt (((congrFun (up2_n _ _ (by decide)) _).trans ((congrFun (up2_n _ _ (by decide)) _).trans (up2_at _ _ _ _))))
                  have hV_101 : DI (up2 (up2 (up2 j1 404 ((i 36 41).toInt).toNat (i 36 2)) 405 ((i 36 41).toInt).toNat x) 36 41 z_94) := (DI_new hdi (by omega) (by omega) (by omega) hpk h60 (by omega) (fun k hk => (congrArg Int32.toInt (show (up2 (up2 (up2 j1 404 ((i 36 41).toInt).toNat (i 36 2)) 405 ((i 36 41).toInt).toNat x) 36 41 z_94) 403 _ = j1 403 _ from ((up2_o _ _ (by omega)).trans ((up2_o _ _ (by omega)).trans (up2_o _ _ (by omega)))))).trans (hi_lp_89_1 k (by omega))) (fun k hk => (show (up2 (up2 (up2 j1 404 ((i 36 41).toInt).toNat (i 36 2)) 405 ((i 36 41).toInt).toNat x) 36 41 z_94) 403 k = j1 403 k from ((up2_o _ _ (by omega)).trans ((up2_o _ _ (by omega)).trans (up2_o _ _ (by omega))))).trans (hi_lp_89_2 k hk)) (fun k hk => ((up2_o _ _ (by omega)).trans ((up2_o _ _ (by omega)).trans ((up2_o _ _ (by omega)).trans ((hfr_j1 404 k (by omega)).trans ((hfr_83 404 k (by omega)).trans ((up2_o _ _ (by omega)).trans ((hfr_14 404 k (by omega)).trans (hfr_5 404 k (by omega)))))))))) (hO 404))
                  exact sj_zret hx hb hr hlocks rfl hS (up2 (up2 (up2 j1 404 ((i 36 41).toInt).toNat (i 36 2)) 405 ((i 36 41).toInt).toNat x) 36 41 z_94) ⟨hO_95, (fun a b ha => ((up2_o _ _ (by omega)).trans ((up2_o _ _ (by omega)).trans ((up2_o _ _ (by omega)).trans ((hfr_j1 a b (by omega)).trans ((hfr_83 a b (by omega)).trans ((up2_o _ _ (by omega)).trans ((hfr_14 a b (by omega)).trans (hfr_5 a b (by omega)))))))))), hV_99, hV_101⟩ hH (sj_Knil hK) (Nat.le_of_ble_eq_true rfl) (Nat.le_of_ble_eq_true rfl) dX12_define_155
                · skip
                  have h_102 := s_nle (rfl : (i 36 2).toInt = _) (rfl : f.toInt = _) c_90
                  refine lv_aload_n hx hb dX12_define_91 rfl (lv_at hl 3 rfl) ?_
                  refine h_getr (ci := 12) (C := RX12) (F := TX12) (N := 86) hx hb hts in12 hown hK hH (by decide) (rfl : kd 36 = 12) (by decide) rfl 42 (by decide) wd5 (fun _ h9 => h9) (by decide) rfl (t := 403) (hR 36 42 rfl) (by decide) dX12_define_92 ?_
                  refine lv_bipush (v := 60) hx hb dX12_define_95 (by decide) ?_
                  refine lv_aload_n hx hb dX12_define_97 rfl (lv_at hl 3 rfl) ?_
                  refine h_geti (ci := 12) (C := RX12) (F := TX12) (N := 86) hx hb hts in12 hown hK hH (by decide) (rfl : kd 36 = 12) (by decide) rfl 41 (by decide) wd2 (fun _ h9 => h9) (by decide) rfl dX12_define_98 ?_
                  refine sj_i (y := (i 36 41)) ((hfr_j1 36 41 (by omega)).trans ((hfr_83 36 41 (by omega)).trans ((up2_k _ _ (by decide)).trans ((hfr_14 36 41 (by omega)).trans (hfr_5 36 41 (by omega)))))) ?_
                  refine lv_imul hx hb dX12_define_101 ?_
                  obtain ⟨z_103, ez_103, hz_103⟩ := s_mul (show (60 : Int32).toInt = 60 from rfl) (rfl : (i 36 41).toInt = _) (by omega) (by omega)
                  refine sj_i ez_103 ?_
                  refine lv_iload hx hb dX12_define_102 (lv_at hl 0 rfl) ?_
                  refine lv_iadd hx hb dX12_define_104 ?_
                  obtain ⟨z_104, ez_104, hz_104⟩ := s_add (rfl : z_103.toInt = _) (rfl : f.toInt = _) (by omega) (by omega)
                  refine sj_i ez_104 ?_
                  refine lv_aload_n hx hb dX12_define_105 rfl (lv_at hl 3 rfl) ?_
                  refine h_getr (ci := 12) (C := RX12) (F := TX12) (N := 86) hx hb hts in12 hown hK hH (by decide) (rfl : kd 36 = 12) (by decide) rfl 1 (by decide) wd0 (fun _ h9 => h9) (by decide) rfl (t := 379) (hR 36 1 rfl) (by decide) dX12_define_106 ?_
                  refine lv_iload hx hb dX12_define_109 (lv_at hl 0 rfl) ?_
                  have bx_105 : (0 : Int) ≤ (i 379 (f.toInt).toNat).toInt ∧ (i 379 (f.toInt).toNat).toInt ≤ 65535 := hO 379 (f.toInt).toNat
                  refine h_cald hx hb hK hH (by decide) (rfl : kd 379 = 14) (s_vin (N := 480) (rfl : f.toInt = _) (rfl : ln 379 = 480) (by omega) (by omega)) dX12_define_111 ?_
                  have ek_106 : f.toNatClampNeg = (f.toInt).toNat := (s_cl (show f.toInt = f.toInt by omega))
                  refine sj_i (y := (i 379 (f.toInt).toNat)) (by rw [ek_106]; exact ((hfr_j1 379 (f.toInt).toNat (by omega)).trans ((hfr_83 379 (f.toInt).toNat (by omega)).trans ((congrFun (up2_n _ _ (by decide)) _).trans ((hfr_14 379 (f.toInt).toNat (by omega)).trans (hfr_5 379 (f.toInt).toNat (by omega))))))) ?_
                  obtain ⟨z_107, ez_107⟩ : ∃ z, vp_nar .char (i 379 (f.toInt).toNat) = z := ⟨_, rfl⟩
                  have hz_107 : z_107.toInt = (i 379 (f.toInt).toNat).toInt := by rw [← ez_107, s_narc (rfl : (i 379 (f.toInt).toNat).toInt = _) (by omega) (by omega)] <;> exact (rfl : (i 379 (f.toInt).toNat).toInt = _)
                  have hO_108 := okp hO_j1 (n := 403) (k := (60 * (i 36 41).toInt + f.toInt).toNat) (v := z_107) (show (0 : Int) ≤ (z_107 : Int32).toInt ∧ (z_107 : Int32).toInt ≤ 65535 from ⟨by omega, by omega⟩)
                  refine h_cast hx hb hK hH hS (by decide) (rfl : kd 403 = 14) (s_vin (N := 720) (rfl : z_104.toInt = _) (rfl : ln 403 = 720) (by omega) (by omega)) dX12_define_112 (fun H locs hH hS => ?_)
                  rw [ez_107] at hH
                  rw [s_cl (show z_104.toInt = 60 * (i 36 41).toInt + f.toInt by omega)] at hH
                  obtain ⟨z_109, ez_109, hz_109⟩ := s_add (rfl : f.toInt = _) (show (1 : Int32).toInt = 1 from rfl) (by omega) (by omega)
                  refine lv_iinc (v := z_109) (lv' := [(4, .int z_109), (3, .int (i 36 2)), (2, .int 1), (0, .ref (g 36)), (1, .int x)]) hx hb dX12_define_113 hl (k := 0) rfl ez_109 (by decide) rfl (fun ls hl => ?_)
                  refine lv_goto (tgt := 85) hx hb dX12_define_116 (by decide) ?_
                  exact ih_lp_89 z_109 _ _ _ ls (by omega) (by omega) (by omega) (fun k hk => by
                            by_cases q : (k : Int) < f.toInt
                            · rw [show (up2 j1 403 (60 * (i 36 41).toInt + f.toInt).toNat z_107) 403 ((60 * (i 36 41).toInt).toNat + k) = j1 403 ((60 * (i 36 41).toInt).toNat + k) from (up2_o _ _ (by omega))]; exact hi_lp_89_1 k q
                            · rw [show (60 * (i 36 41).toInt).toNat + k = (60 * (i 36 41).toInt + f.toInt).toNat by omega, up2_at, show k = (f.toInt).toNat by omega]; omega) (fun k hk => ((up2_o _ _ (by omega)).trans (hi_lp_89_2 k hk))) hO_108 (fun a b ha => ((up2_o _ _ (by omega)).trans (hfr_j1 a b (by omega)))) (lv_sub hl [0, 1, 2, 3, 4] rfl) hH hS
            have hl_110 : (0 : Int32).toInt = 0 := rfl
            exact lp_89 _ 0 _ _ _ ls (Nat.lt_succ_self _) (by omega) (by omega) (fun k hk => by exfalso; have : (0 : Int32).toInt = 0 := rfl; omega) (fun k hk => ((hfr_83 403 k (by omega)).trans ((up2_o _ _ (by omega)).trans ((hfr_14 403 k (by omega)).trans (hfr_5 403 k (by omega)))))) hO_84 (fun a b ha => rfl) (lv_sub hl [0, 1, 2, 3, 4] rfl) hH hS
          · skip
            have h_111 := s_ne (rfl : r_80.toInt = _) (show (0 : Int32).toInt = 0 from rfl) c_87
            exfalso; omega
        · skip
          have h_112 := s_eq (rfl : (i 36 41).toInt = _) (show (12 : Int32).toInt = 12 from rfl) c_77
          refine lv_iconst (v := 3) hx hb dX12_define_69 (by decide) ?_
          refine lv_goto (tgt := 74) hx hb dX12_define_70 (by decide) ?_
          have hl_113 : (3 : Int32).toInt = 3 := rfl
          refine x_calli (va_runV (As := [.int 3]) (rest := []) ⟨hx, hb, hml, hown, hts⟩ (m_throwsNow l D g ka ad (up2 im_13 36 2 0) r L d 3 hO_75 hR H.size (by first | omega | decide) (by first | omega | decide)) (cwV 1 hts gX12_define_X12_throwsNow rfl rfl rfl (by decide +kernel) ⟨(Nat.le_of_ble_eq_true rfl), (Nat.le_of_ble_eq_true rfl)⟩) (x_preV (q := (RX12, TX12, 86)) hH hK (q_obj (by decide) (rfl : kd 36 = 12) (by decide)) rfl gxb (gxw hE hS (x_F hH hS hA))) rfl rfl hl.1 rfl (lv_room (Nat.le_of_ble_eq_true rfl)) dX12_define_74 ⟨(Nat.le_of_ble_eq_true rfl), (Nat.le_of_ble_eq_true rfl)⟩) hH hS hA rfl rfl (fun r_114 im_116 H locs hw_115 hH hS => ?_)
          have hH : sj_H D A (hwc g ka im_116 r L d) H := hH
          obtain ⟨hO_118, hfr_117, hr_119, he_120⟩ := hw_115
          have hr_119 : (0 : Int) ≤ r_114.toInt ∧ r_114.toInt ≤ 1 := hr_119
          refine lv_if_eq (tgt := 82) hx hb dX12_define_77 (by decide) (fun c_121 => ?_) (fun c_121 => ?_)
          · skip
            have h_122 := s_eq (rfl : r_114.toInt = _) (show (0 : Int32).toInt = 0 from rfl) c_121
            exfalso; omega
          · skip
            have h_123 := s_ne (rfl : r_114.toInt = _) (show (0 : Int32).toInt = 0 from rfl) c_121
            refine lv_iconst (v := 0) hx hb dX12_define_80 (by decide) ?_
            have hp_124 : (im_116 36 2).toInt = (0 : Int32).toInt := congrArg Int32.toInt (((hfr_117 36 2 (by omega)).trans (up2_at _ _ _ _)))
            have hl_125 : (0 : Int32).toInt = 0 := rfl
            have hV_126 : (im_116 36 2).toInt = 0 := (by omega)
            have hV_127 : DI im_116 := (DI_fr hdi ((hfr_117 36 41 (by omega)).trans ((up2_o _ _ (by omega)).trans ((hfr_14 36 41 (by omega)).trans (hfr_5 36 41 (by omega))))) (funext fun b9 => ((hfr_117 403 b9 (by omega)).trans ((up2_o _ _ (by omega)).trans ((hfr_14 403 b9 (by omega)).trans (hfr_5 403 b9 (by omega)))))) (funext fun b9 => ((hfr_117 404 b9 (by omega)).trans ((up2_o _ _ (by omega)).trans ((hfr_14 404 b9 (by omega)).trans (hfr_5 404 b9 (by omega)))))))
            exact sj_zret hx hb hr hlocks rfl hS im_116 ⟨hO_118, (fun a b ha => ((hfr_117 a b (by omega)).trans ((up2_o _ _ (by omega)).trans ((hfr_14 a b (by omega)).trans (hfr_5 a b (by omega)))))), hV_126, hV_127⟩ hH (sj_Knil hK) (Nat.le_of_ble_eq_true rfl) (Nat.le_of_ble_eq_true rfl) dX12_define_81
