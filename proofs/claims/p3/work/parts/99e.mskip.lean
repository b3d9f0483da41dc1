theorem mdue_fr {i u : Nat → Nat → Int32} (e67 : u 36 67 = i 36 67) (e0 : u 420 = i 420) (e6 : u 416 = i 416) (e7 : u 417 = i 417) (b : Int) (x : Int32) (h : Nat) : mdue u b x h = mdue i b x h := by unfold mdue; rw [e67, e0, tgHM_fr e6 e7]
/-- a hook of this kind that a case has -/
def mdP (i : Nat → Nat → Int32) (b : Int) (c : Nat) (h : Nat) : Bool := mdue i b (i 400 c) h
/-- how many moves a worker still has to make in its case -/
def mwrF (i : Nat → Nat → Int32) (c : Nat) (nx : Int) : Int :=
  if nx < 8 then (cnl (mdP i 1 c) 8 : Int) - (cnl (mdP i 1 c) nx.toNat : Int) + mcs i c + (cnl (mdP i 0 c) 8 : Int) + 1
  else if nx < 100 then (if nx - 8 ≤ mcs i c then mcs i c - (nx - 8) else 0) + (cnl (mdP i 0 c) 8 : Int) + 1
  else (cnl (mdP i 0 c) (108 - nx).toNat : Int) + 1
theorem mwr_b {i : Nat → Nat → Int32} {c : Nat} {n m : Int} (hm : 0 ≤ mcs i c) (h0 : 0 ≤ n) (h8 : n < 8) (e : m = n + 1) (hp : mdP i 1 c n.toNat = false) : mwrF i c m = mwrF i c n := by
  have h1 := cnl_no hp
  unfold mwrF
  rw [if_pos h8]
  by_cases q : m < 8
  · rw [if_pos q, show m.toNat = n.toNat + 1 by omega, h1]
  · have q7 : n.toNat + 1 = 8 := by omega
    rw [q7] at h1
    rw [if_neg q, if_pos (by omega), if_pos (by omega), h1]; omega
theorem mwr_m {i : Nat → Nat → Int32} {c : Nat} {n m : Int} (h8 : 8 ≤ n) (h9 : n < 100) (e : m = 100) (hp : mcs i c ≤ n - 8) : mwrF i c m = mwrF i c n := by
  subst e
  unfold mwrF
  rw [if_neg (by decide), if_neg (by decide), if_neg (by omega), if_pos h9]
  rw [show (108 - (100 : Int)).toNat = 8 by decide]
  by_cases q : n - 8 ≤ mcs i c
  · rw [if_pos q]; omega
  · rw [if_neg q]; omega
theorem mwr_a {i : Nat → Nat → Int32} {c : Nat} {n m : Int} (h0 : 100 ≤ n) (h8 : n < 108) (e : m = n + 1) (hp : mdP i 0 c (107 - n).toNat = false) : mwrF i c m = mwrF i c n := by
  have h1 := cnl_no hp
  unfold mwrF
  rw [if_neg (by omega), if_neg (by omega), if_neg (by omega), if_neg (by omega), show (108 - n).toNat = (107 - n).toNat + 1 by omega, h1, show (108 - m).toNat = (107 - n).toNat by omega]
def nxO (i u : Nat → Nat → Int32) (x : Nat) : Prop := ∀ k : Nat, k ≠ x → u 428 k = i 428 k
theorem nxO_0 {i u : Nat → Nat → Int32} {x : Nat} (h : ∀ k, u 428 k = i 428 k) : nxO i u x := fun k _ => h k
def skB (i : Nat → Nat → Int32) (c : Nat) (n : Int) : Prop := (n < 8 → mdP i 1 c n.toNat = true) ∧ (8 ≤ n → n < 100 → n - 8 < mcs i c)
def skC (i : Nat → Nat → Int32) (c : Nat) (n : Int) : Prop := 100 ≤ n → n < 108 → mdP i 0 c (107 - n).toNat = true
theorem dX12_skip_0 : decode cX12_skip 0 = .ok (.aload_n 0, 1) := by decide +kernel
theorem dX12_skip_1 : decode cX12_skip 1 = .ok (.getfield 492, 3) := by decide +kernel
theorem dX12_skip_4 : decode cX12_skip 4 = .ok (.iload_n 1, 1) := by decide +kernel
theorem dX12_skip_5 : decode cX12_skip 5 = .ok (.iaload, 1) := by decide +kernel
theorem dX12_skip_6 : decode cX12_skip 6 = .ok (.istore_n 2, 1) := by decide +kernel
theorem dX12_skip_7 : decode cX12_skip 7 = .ok (.aload_n 0, 1) := by decide +kernel
theorem dX12_skip_8 : decode cX12_skip 8 = .ok (.getfield 495, 3) := by decide +kernel
theorem dX12_skip_11 : decode cX12_skip 11 = .ok (.iload_n 1, 1) := by decide +kernel
theorem dX12_skip_12 : decode cX12_skip 12 = .ok (.iaload, 1) := by decide +kernel
theorem dX12_skip_13 : decode cX12_skip 13 = .ok (.bipush 8, 2) := by decide +kernel
theorem dX12_skip_15 : decode cX12_skip 15 = .ok (.if_icmp .ge 31, 3) := by decide +kernel
theorem dX12_skip_46 : decode cX12_skip 46 = .ok (.aload_n 0, 1) := by decide +kernel
theorem dX12_skip_47 : decode cX12_skip 47 = .ok (.getfield 495, 3) := by decide +kernel
theorem dX12_skip_50 : decode cX12_skip 50 = .ok (.iload_n 1, 1) := by decide +kernel
theorem dX12_skip_51 : decode cX12_skip 51 = .ok (.iaload, 1) := by decide +kernel
theorem dX12_skip_52 : decode cX12_skip 52 = .ok (.bipush 8, 2) := by decide +kernel
theorem dX12_skip_54 : decode cX12_skip 54 = .ok (.if_icmp .lt 39, 3) := by decide +kernel
theorem dX12_skip_57 : decode cX12_skip 57 = .ok (.aload_n 0, 1) := by decide +kernel
theorem dX12_skip_58 : decode cX12_skip 58 = .ok (.getfield 495, 3) := by decide +kernel
theorem dX12_skip_61 : decode cX12_skip 61 = .ok (.iload_n 1, 1) := by decide +kernel
theorem dX12_skip_62 : decode cX12_skip 62 = .ok (.iaload, 1) := by decide +kernel
theorem dX12_skip_63 : decode cX12_skip 63 = .ok (.bipush 100, 2) := by decide +kernel
theorem dX12_skip_65 : decode cX12_skip 65 = .ok (.if_icmp .ge 28, 3) := by decide +kernel
theorem dX12_skip_93 : decode cX12_skip 93 = .ok (.aload_n 0, 1) := by decide +kernel
theorem dX12_skip_94 : decode cX12_skip 94 = .ok (.getfield 495, 3) := by decide +kernel
theorem dX12_skip_97 : decode cX12_skip 97 = .ok (.iload_n 1, 1) := by decide +kernel
theorem dX12_skip_98 : decode cX12_skip 98 = .ok (.iaload, 1) := by decide +kernel
theorem dX12_skip_99 : decode cX12_skip 99 = .ok (.bipush 100, 2) := by decide +kernel
theorem dX12_skip_101 : decode cX12_skip 101 = .ok (.if_icmp .lt 45, 3) := by decide +kernel
theorem dX12_skip_146 : decode cX12_skip 146 = .ok (.return_, 1) := by decide +kernel
theorem dX12_skip_104 : decode cX12_skip 104 = .ok (.aload_n 0, 1) := by decide +kernel
theorem dX12_skip_105 : decode cX12_skip 105 = .ok (.getfield 495, 3) := by decide +kernel
theorem dX12_skip_108 : decode cX12_skip 108 = .ok (.iload_n 1, 1) := by decide +kernel
theorem dX12_skip_109 : decode cX12_skip 109 = .ok (.iaload, 1) := by decide +kernel
theorem dX12_skip_110 : decode cX12_skip 110 = .ok (.bipush 108, 2) := by decide +kernel
theorem dX12_skip_112 : decode cX12_skip 112 = .ok (.if_icmp .ge 34, 3) := by decide +kernel
theorem dX12_skip_115 : decode cX12_skip 115 = .ok (.aload_n 0, 1) := by decide +kernel
theorem dX12_skip_116 : decode cX12_skip 116 = .ok (.bipush 107, 2) := by decide +kernel
theorem dX12_skip_118 : decode cX12_skip 118 = .ok (.aload_n 0, 1) := by decide +kernel
theorem dX12_skip_119 : decode cX12_skip 119 = .ok (.getfield 495, 3) := by decide +kernel
theorem dX12_skip_122 : decode cX12_skip 122 = .ok (.iload_n 1, 1) := by decide +kernel
theorem dX12_skip_123 : decode cX12_skip 123 = .ok (.iaload, 1) := by decide +kernel
theorem dX12_skip_124 : decode cX12_skip 124 = .ok (.isub, 1) := by decide +kernel
theorem dX12_skip_125 : decode cX12_skip 125 = .ok (.iconst 0, 1) := by decide +kernel
theorem dX12_skip_126 : decode cX12_skip 126 = .ok (.iload_n 2, 1) := by decide +kernel
theorem dX12_skip_127 : decode cX12_skip 127 = .ok (.invokevirtual 525, 3) := by decide +kernel
theorem dX12_skip_130 : decode cX12_skip 130 = .ok (.ifCond .ne 16, 3) := by decide +kernel
theorem dX12_skip_133 : decode cX12_skip 133 = .ok (.aload_n 0, 1) := by decide +kernel
theorem dX12_skip_134 : decode cX12_skip 134 = .ok (.getfield 495, 3) := by decide +kernel
theorem dX12_skip_137 : decode cX12_skip 137 = .ok (.iload_n 1, 1) := by decide +kernel
theorem dX12_skip_138 : decode cX12_skip 138 = .ok (.dup2, 1) := by decide +kernel
theorem dX12_skip_139 : decode cX12_skip 139 = .ok (.iaload, 1) := by decide +kernel
theorem dX12_skip_140 : decode cX12_skip 140 = .ok (.iconst 1, 1) := by decide +kernel
theorem dX12_skip_141 : decode cX12_skip 141 = .ok (.iadd, 1) := by decide +kernel
theorem dX12_skip_142 : decode cX12_skip 142 = .ok (.iastore, 1) := by decide +kernel
theorem dX12_skip_143 : decode cX12_skip 143 = .ok (.goto (-50), 3) := by decide +kernel
theorem dX12_skip_68 : decode cX12_skip 68 = .ok (.aload_n 0, 1) := by decide +kernel
theorem dX12_skip_69 : decode cX12_skip 69 = .ok (.getfield 495, 3) := by decide +kernel
theorem dX12_skip_72 : decode cX12_skip 72 = .ok (.iload_n 1, 1) := by decide +kernel
theorem dX12_skip_73 : decode cX12_skip 73 = .ok (.iaload, 1) := by decide +kernel
theorem dX12_skip_74 : decode cX12_skip 74 = .ok (.bipush 8, 2) := by decide +kernel
theorem dX12_skip_76 : decode cX12_skip 76 = .ok (.isub, 1) := by decide +kernel
theorem dX12_skip_77 : decode cX12_skip 77 = .ok (.aload_n 0, 1) := by decide +kernel
theorem dX12_skip_78 : decode cX12_skip 78 = .ok (.iload_n 2, 1) := by decide +kernel
theorem dX12_skip_79 : decode cX12_skip 79 = .ok (.invokevirtual 529, 3) := by decide +kernel
theorem dX12_skip_82 : decode cX12_skip 82 = .ok (.if_icmp .lt 11, 3) := by decide +kernel
theorem dX12_skip_85 : decode cX12_skip 85 = .ok (.aload_n 0, 1) := by decide +kernel
theorem dX12_skip_86 : decode cX12_skip 86 = .ok (.getfield 495, 3) := by decide +kernel
theorem dX12_skip_89 : decode cX12_skip 89 = .ok (.iload_n 1, 1) := by decide +kernel
theorem dX12_skip_90 : decode cX12_skip 90 = .ok (.bipush 100, 2) := by decide +kernel
theorem dX12_skip_92 : decode cX12_skip 92 = .ok (.iastore, 1) := by decide +kernel
theorem dX12_skip_18 : decode cX12_skip 18 = .ok (.aload_n 0, 1) := by decide +kernel
theorem dX12_skip_19 : decode cX12_skip 19 = .ok (.aload_n 0, 1) := by decide +kernel
theorem dX12_skip_20 : decode cX12_skip 20 = .ok (.getfield 495, 3) := by decide +kernel
theorem dX12_skip_23 : decode cX12_skip 23 = .ok (.iload_n 1, 1) := by decide +kernel
theorem dX12_skip_24 : decode cX12_skip 24 = .ok (.iaload, 1) := by decide +kernel
theorem dX12_skip_25 : decode cX12_skip 25 = .ok (.iconst 1, 1) := by decide +kernel
theorem dX12_skip_26 : decode cX12_skip 26 = .ok (.iload_n 2, 1) := by decide +kernel
theorem dX12_skip_27 : decode cX12_skip 27 = .ok (.invokevirtual 525, 3) := by decide +kernel
theorem dX12_skip_30 : decode cX12_skip 30 = .ok (.ifCond .ne 16, 3) := by decide +kernel
theorem dX12_skip_33 : decode cX12_skip 33 = .ok (.aload_n 0, 1) := by decide +kernel
theorem dX12_skip_34 : decode cX12_skip 34 = .ok (.getfield 495, 3) := by decide +kernel
theorem dX12_skip_37 : decode cX12_skip 37 = .ok (.iload_n 1, 1) := by decide +kernel
theorem dX12_skip_38 : decode cX12_skip 38 = .ok (.dup2, 1) := by decide +kernel
theorem dX12_skip_39 : decode cX12_skip 39 = .ok (.iaload, 1) := by decide +kernel
theorem dX12_skip_40 : decode cX12_skip 40 = .ok (.iconst 1, 1) := by decide +kernel
theorem dX12_skip_41 : decode cX12_skip 41 = .ok (.iadd, 1) := by decide +kernel
theorem dX12_skip_42 : decode cX12_skip 42 = .ok (.iastore, 1) := by decide +kernel
theorem dX12_skip_43 : decode cX12_skip 43 = .ok (.goto (-36), 3) := by decide +kernel
theorem gw_X12_due : wsX12_due.all goodWord = true := by decide +kernel
theorem gX12_skip_X12_due : GoodIn wsX12_skip (wsV RX12 525 RX12 yX12_due wsX12_due) := goodIn_app (goodIn_sub (List.forall_mem_cons.mpr ⟨(List.mem_cons_of_mem _ (List.mem_append_left _ (List.mem_append_left _ lm2))), List.forall_mem_cons.mpr ⟨(List.mem_cons_of_mem _ (List.mem_append_left _ (List.mem_append_left _ lm3))), List.forall_mem_cons.mpr ⟨(List.mem_cons_of_mem _ (List.mem_append_left _ (List.mem_append_left _ lm4))), List.forall_mem_cons.mpr ⟨(List.mem_cons_of_mem _ (List.mem_append_left _ (List.mem_append_left _ lm5))), (fun _ h => absurd h List.not_mem_nil)⟩⟩⟩⟩) (by decide +kernel)) (goodIn_sub (by unfold wsX12_due; exact List.forall_mem_cons.mpr ⟨(List.mem_cons_of_mem _ (List.mem_append_left _ (List.mem_append_left _ lm6))), List.forall_mem_append.mpr ⟨List.forall_mem_append.mpr ⟨List.forall_mem_cons.mpr ⟨(List.mem_cons_of_mem _ (List.mem_append_left _ (List.mem_append_left _ lm7))), List.forall_mem_cons.mpr ⟨(List.mem_cons_of_mem _ (List.mem_append_left _ (List.mem_append_left _ lm8))), List.forall_mem_cons.mpr ⟨(List.mem_cons_of_mem _ (List.mem_append_left _ (List.mem_append_left _ lm9))), List.forall_mem_cons.mpr ⟨(List.mem_cons_of_mem _ (List.mem_append_left _ (List.mem_append_left _ lm10))), List.forall_mem_cons.mpr ⟨(List.mem_cons_of_mem _ (List.mem_append_left _ (List.mem_append_left _ lm11))), List.forall_mem_cons.mpr ⟨(List.mem_cons_of_mem _ (List.mem_append_left _ (List.mem_append_left _ lm12))), List.forall_mem_cons.mpr ⟨(List.mem_cons_of_mem _ (List.mem_append_left _ (List.mem_append_left _ lm5))), List.forall_mem_cons.mpr ⟨(List.mem_cons_of_mem _ (List.mem_append_left _ (List.mem_append_left _ lm13))), List.forall_mem_cons.mpr ⟨(List.mem_cons_of_mem _ (List.mem_append_left _ (List.mem_append_left _ lm14))), List.forall_mem_cons.mpr ⟨(List.mem_cons_of_mem _ (List.mem_append_left _ (List.mem_append_left _ lm15))), List.forall_mem_cons.mpr ⟨(List.mem_cons_of_mem _ (List.mem_append_left _ (List.mem_append_left _ lm16))), List.forall_mem_cons.mpr ⟨(List.mem_cons_of_mem _ (List.mem_append_left _ (List.mem_append_left _ lm17))), List.forall_mem_cons.mpr ⟨(List.mem_cons_of_mem _ (List.mem_append_left _ (List.mem_append_left _ lm18))), List.forall_mem_cons.mpr ⟨(List.mem_cons_of_mem _ (List.mem_append_left _ (List.mem_append_left _ lm19))), List.forall_mem_cons.mpr ⟨(List.mem_cons_of_mem _ (List.mem_append_left _ (List.mem_append_left _ lm20))), List.forall_mem_cons.mpr ⟨(List.mem_cons_of_mem _ (List.mem_append_left _ (List.mem_append_left _ lm21))), List.forall_mem_cons.mpr ⟨(List.mem_cons_of_mem _ (List.mem_append_left _ (List.mem_append_left _ lm22))), List.forall_mem_cons.mpr ⟨(List.mem_cons_of_mem _ (List.mem_append_left _ (List.mem_append_left _ lm23))), List.forall_mem_cons.mpr ⟨(List.mem_cons_of_mem _ (List.mem_append_left _ (List.mem_append_right _ (List.mem_append_left _ lm0)))), List.forall_mem_cons.mpr ⟨(List.mem_cons_of_mem _ (List.mem_append_left _ (List.mem_append_right _ (List.mem_append_left _ lm1)))), List.forall_mem_cons.mpr ⟨(List.mem_cons_of_mem _ (List.mem_append_left _ (List.mem_append_right _ (List.mem_append_left _ lm2)))), List.forall_mem_cons.mpr ⟨(List.mem_cons_of_mem _ (List.mem_append_left _ (List.mem_append_right _ (List.mem_append_left _ lm3)))), List.forall_mem_cons.mpr ⟨(List.mem_cons_of_mem _ (List.mem_append_left _ (List.mem_append_right _ (List.mem_append_left _ lm4)))), List.forall_mem_cons.mpr ⟨(List.mem_cons_of_mem _ (List.mem_append_left _ (List.mem_append_right _ (List.mem_append_left _ lm5)))), (fun _ h => absurd h List.not_mem_nil)⟩⟩⟩⟩⟩⟩⟩⟩⟩⟩⟩⟩⟩⟩⟩⟩⟩⟩⟩⟩⟩⟩⟩⟩, List.forall_mem_cons.mpr ⟨(List.mem_cons_of_mem _ (List.mem_append_left _ (List.mem_append_right _ (List.mem_append_left _ lm6)))), List.forall_mem_cons.mpr ⟨(List.mem_cons_of_mem _ (List.mem_append_left _ (List.mem_append_right _ (List.mem_append_left _ lm7)))), List.forall_mem_cons.mpr ⟨(List.mem_cons_of_mem _ (List.mem_append_left _ (List.mem_append_right _ (List.mem_append_left _ lm8)))), List.forall_mem_cons.mpr ⟨(List.mem_cons_of_mem _ (List.mem_append_left _ (List.mem_append_right _ (List.mem_append_left _ lm9)))), List.forall_mem_cons.mpr ⟨(List.mem_cons_of_mem _ (List.mem_append_left _ (List.mem_append_right _ (List.mem_append_left _ lm10)))), List.forall_mem_cons.mpr ⟨(List.mem_cons_of_mem _ (List.mem_append_left _ (List.mem_append_right _ (List.mem_append_left _ lm11)))), List.forall_mem_cons.mpr ⟨(List.mem_cons_of_mem _ (List.mem_append_left _ (List.mem_append_right _ (List.mem_append_left _ lm12)))), List.forall_mem_cons.mpr ⟨(List.mem_cons_of_mem _ (List.mem_append_left _ (List.mem_append_right _ (List.mem_append_left _ lm13)))), List.forall_mem_cons.mpr ⟨(List.mem_cons_of_mem _ (List.mem_append_left _ (List.mem_append_right _ (List.mem_append_left _ lm14)))), List.forall_mem_cons.mpr ⟨(List.mem_cons_of_mem _ (List.mem_append_left _ (List.mem_append_right _ (List.mem_append_left _ lm15)))), List.forall_mem_cons.mpr ⟨(List.mem_cons_of_mem _ (List.mem_append_left _ (List.mem_append_right _ (List.mem_append_left _ lm16)))), List.forall_mem_cons.mpr ⟨(List.mem_cons_of_mem _ (List.mem_append_left _ (List.mem_append_right _ (List.mem_append_left _ lm17)))), List.forall_mem_cons.mpr ⟨(List.mem_cons_of_mem _ (List.mem_append_left _ (List.mem_append_right _ (List.mem_append_left _ lm18)))), (fun _ h => absurd h List.not_mem_nil)⟩⟩⟩⟩⟩⟩⟩⟩⟩⟩⟩⟩⟩⟩, (fun _ h => (List.mem_cons_of_mem _ (List.mem_append_right _ h)))⟩⟩) gw_X12_due)
theorem gw_X12_caseSteps : wsX12_caseSteps.all goodWord = true := by decide +kernel
theorem gX12_skip_X12_caseSteps : GoodIn wsX12_skip (wsV RX12 529 RX12 yX12_caseSteps wsX12_caseSteps) := goodIn_app (goodIn_sub (List.forall_mem_cons.mpr ⟨(List.mem_cons_of_mem _ (List.mem_append_left _ (List.mem_append_right _ (List.mem_append_left _ lm19)))), List.forall_mem_cons.mpr ⟨(List.mem_cons_of_mem _ (List.mem_append_left _ (List.mem_append_right _ (List.mem_append_left _ lm20)))), List.forall_mem_cons.mpr ⟨(List.mem_cons_of_mem _ (List.mem_append_left _ (List.mem_append_right _ (List.mem_append_left _ lm21)))), List.forall_mem_cons.mpr ⟨(List.mem_cons_of_mem _ (List.mem_append_left _ (List.mem_append_left _ lm5))), (fun _ h => absurd h List.not_mem_nil)⟩⟩⟩⟩) (by decide +kernel)) (goodIn_sub (by unfold wsX12_caseSteps; exact List.forall_mem_cons.mpr ⟨(List.mem_cons_of_mem _ (List.mem_append_left _ (List.mem_append_right _ (List.mem_append_left _ lm22)))), List.forall_mem_append.mpr ⟨List.forall_mem_cons.mpr ⟨(List.mem_cons_of_mem _ (List.mem_append_left _ (List.mem_append_right _ (List.mem_append_left _ lm23)))), List.forall_mem_cons.mpr ⟨(List.mem_cons_of_mem _ (List.mem_append_left _ (List.mem_append_right _ (List.mem_append_right _ lm0)))), List.forall_mem_cons.mpr ⟨(List.mem_cons_of_mem _ (List.mem_append_left _ (List.mem_append_right _ (List.mem_append_right _ lm1)))), List.forall_mem_cons.mpr ⟨(List.mem_cons_of_mem _ (List.mem_append_left _ (List.mem_append_right _ (List.mem_append_right _ lm2)))), List.forall_mem_cons.mpr ⟨(List.mem_cons_of_mem _ (List.mem_append_left _ (List.mem_append_right _ (List.mem_append_right _ lm3)))), List.forall_mem_cons.mpr ⟨(List.mem_cons_of_mem _ (List.mem_append_left _ (List.mem_append_left _ lm5))), List.forall_mem_cons.mpr ⟨(List.mem_cons_of_mem _ (List.mem_append_left _ (List.mem_append_right _ (List.mem_append_right _ lm4)))), List.forall_mem_cons.mpr ⟨(List.mem_cons_of_mem _ (List.mem_append_left _ (List.mem_append_right _ (List.mem_append_right _ lm5)))), List.forall_mem_cons.mpr ⟨(List.mem_cons_of_mem _ (List.mem_append_left _ (List.mem_append_right _ (List.mem_append_right _ lm6)))), List.forall_mem_cons.mpr ⟨(List.mem_cons_of_mem _ (List.mem_append_left _ (List.mem_append_right _ (List.mem_append_right _ lm7)))), List.forall_mem_cons.mpr ⟨(List.mem_cons_of_mem _ (List.mem_append_left _ (List.mem_append_right _ (List.mem_append_right _ lm8)))), List.forall_mem_cons.mpr ⟨(List.mem_cons_of_mem _ (List.mem_append_left _ (List.mem_append_right _ (List.mem_append_right _ lm9)))), (fun _ h => absurd h List.not_mem_nil)⟩⟩⟩⟩⟩⟩⟩⟩⟩⟩⟩⟩, (fun _ h => (List.mem_cons_of_mem _ (List.mem_append_right _ h)))⟩⟩) gw_X12_caseSteps)
set_option maxHeartbeats 2000000 in
set_option maxRecDepth 100000 in
theorem m_skip (l : Launch) (D : va_G) (g : Nat → Nat) (ka : Nat → ClassId) (ad : Nat → Nat) (i : Nat → Nat → Int32) (r : Nat → Nat → Nat) (L : Nat → Nat → Int64) (d : Nat → Nat → UInt64) (x : Int32) (hO : OkI i) (hR : RS r) (sz : Nat) (hx0 : 0 ≤ x.toInt) (hx1 : x.toInt ≤ 2) (hj0 : 0 ≤ (i 427 x.toInt.toNat).toInt) : Met l yX12_skip wsX12_skip ({ frames := 6, cells := 0, slots := 0, locals := 136 }) (va_Pc [.ref (g 36), .int x] (sj_B D (hwc g ka i r L d) (hT ka) sz (gx ad (va_A (hwc g ka i r L d) sz)))) (sj_Qv (S := (Nat → Nat → Int32)) D (fun u => OkI u ∧ (∀ a b, ¬ ((a = 36 ∧ (b = 65 ∨ b = 66)) ∨ a = 418 ∨ a = 419 ∨ a = 428) → u a b = i a b) ∧ (mwrF i (i 427 x.toInt.toNat).toInt.toNat (u 428 x.toInt.toNat).toInt = mwrF i (i 427 x.toInt.toNat).toInt.toNat (i 428 x.toInt.toNat).toInt) ∧ (nxO i u x.toInt.toNat) ∧ (skB i (i 427 x.toInt.toNat).toInt.toNat (u 428 x.toInt.toNat).toInt) ∧ (skC i (i 427 x.toInt.toNat).toInt.toNat (u 428 x.toInt.toNat).toInt)) (fun u => hwc g ka u r L d) (fun _ => []) (va_A (hwc g ka i r L d) sz)) 0 0 (va_A (hwc g ka i r L d) sz) := by
  refine x_met (Ex := gx ad) (cc := cX12_skip) (maxL := 3) (ret := none) (by decide) rfl (Nat.le_of_ble_eq_true rfl) ?_
  intro p e s m below meth c A ls hx hb hr hml hts hown hlocks hA hS hH hK hE hl
  have hown : s.vm.findClass RX12 = some m.cls := hown
  have in12 : ∀ w ∈ wsX120, w ∈ wsX12_skip := (fun _ h => (List.mem_cons_of_mem _ (List.mem_append_right _ h)))
  have wd0 := hts (.fieldLink RX12 492 "StoryDeskModel" "job" "[I") (List.mem_cons_of_mem _ (List.mem_append_left _ (List.mem_append_left _ lm0)))
  have wd1 := hts (.fieldLink RX12 495 "StoryDeskModel" "next" "[I") (List.mem_cons_of_mem _ (List.mem_append_left _ (List.mem_append_left _ lm1)))
  have hl : lv_has ls 3 [(0, .ref (g 36)), (1, .int x)] := hl
  have hK : va_K D vwCl (hT ka) s := hK
  have hb427 : (-1 : Int) ≤ (i 427 x.toInt.toNat).toInt ∧ (i 427 x.toInt.toNat).toInt ≤ 23 := hO 427 _
  have hb428 : (0 : Int) ≤ (i 428 x.toInt.toNat).toInt ∧ (i 428 x.toInt.toNat).toInt ≤ 108 := hO 428 _
  have hmr := mcs_r hO (i 427 x.toInt.toNat).toInt.toNat
  have hmr0 := hmr.1
  refine lv_aload_n hx hb dX12_skip_0 rfl (lv_at hl 0 rfl) ?_
  refine h_getr (ci := 12) (C := RX12) (F := TX12) (N := 86) hx hb hts in12 hown hK hH (by decide) (rfl : kd 36 = 12) (by decide) rfl 83 (by decide) wd0 (fun _ h9 => h9) (by decide) rfl (t := 427) (hR 36 83 rfl) (by decide) dX12_skip_1 ?_
  refine lv_iload_n hx hb dX12_skip_4 rfl (lv_at hl 1 rfl) ?_
  have bx_1 : (-1 : Int) ≤ (i 427 (x.toInt).toNat).toInt ∧ (i 427 (x.toInt).toNat).toInt ≤ 23 := hO 427 (x.toInt).toNat
  refine h_iald hx hb hK hH (by decide) (rfl : kd 427 = 13) (s_vin (N := 3) (rfl : x.toInt = _) (rfl : ln 427 = 3) (by omega) (by omega)) dX12_skip_5 ?_
  have ek_2 : x.toNatClampNeg = (x.toInt).toNat := (s_cl (show x.toInt = x.toInt by omega))
  refine sj_i (y := (i 427 (x.toInt).toNat)) (by rw [ek_2]) ?_
  refine lv_istore_n (lv' := [(2, .int (i 427 (x.toInt).toNat)), (0, .ref (g 36)), (1, .int x)]) hx hb dX12_skip_6 rfl hl (by decide) rfl (fun ls hl => ?_)
  -- loop at 7
  have lp_3 : ∀ (fuel_lp_3 : Nat)  (j1 : Nat → Nat → Int32) (H : Heap) (locs : List Loc) (ls : Array Slot), (108 - (j1 428 x.toInt.toNat).toInt).toNat < fuel_lp_3 → mwrF i (i 427 x.toInt.toNat).toInt.toNat (j1 428 x.toInt.toNat).toInt = mwrF i (i 427 x.toInt.toNat).toInt.toNat (i 428 x.toInt.toNat).toInt → nxO i j1 x.toInt.toNat → OkI j1 → (∀ a b, ¬ ((a = 36 ∧ (b = 65 ∨ b = 66)) ∨ a = 418 ∨ a = 419 ∨ a = 428) → j1 a b = i a b) → lv_has ls 3 [(2, .int (i 427 (x.toInt).toNat)), (0, .ref (g 36)), (1, .int x)] → sj_H D A (hwc g ka j1 r L d) H → va_S A s.heap H locs → W p l e (headSpec wsX12_skip ({ frames := 6, cells := 0, slots := 0, locals := 136 })).room s m ([.ref (g 36), .int x] : List Value).toArray below meth c H locs 0 0 (MQ below (sj_Qv (S := (Nat → Nat → Int32)) D (fun u => OkI u ∧ (∀ a b, ¬ ((a = 36 ∧ (b = 65 ∨ b = 66)) ∨ a = 418 ∨ a = 419 ∨ a = 428) → u a b = i a b) ∧ (mwrF i (i 427 x.toInt.toNat).toInt.toNat (u 428 x.toInt.toNat).toInt = mwrF i (i 427 x.toInt.toNat).toInt.toNat (i 428 x.toInt.toNat).toInt) ∧ (nxO i u x.toInt.toNat) ∧ (skB i (i 427 x.toInt.toNat).toInt.toNat (u 428 x.toInt.toNat).toInt) ∧ (skC i (i 427 x.toInt.toNat).toInt.toNat (u 428 x.toInt.toNat).toInt)) (fun u => hwc g ka u r L d) (fun _ => []) A) ([.ref (g 36), .int x] : List Value).toArray s 0 0 A) (F0 m 7 ls []) := by
    intro fuel_lp_3
    induction fuel_lp_3 with
    | zero => intros; omega
    | succ fuel_lp_3 ih_lp_3 =>
      intro j1 H locs ls hm hi_lp_3_0 hi_lp_3_1 hO_j1 hfr_j1 hl hH hS
      refine lv_aload_n hx hb dX12_skip_7 rfl (lv_at hl 1 rfl) ?_
      refine h_getr (ci := 12) (C := RX12) (F := TX12) (N := 86) hx hb hts in12 hown hK hH (by decide) (rfl : kd 36 = 12) (by decide) rfl 84 (by decide) wd1 (fun _ h9 => h9) (by decide) rfl (t := 428) (hR 36 84 rfl) (by decide) dX12_skip_8 ?_
      refine lv_iload_n hx hb dX12_skip_11 rfl (lv_at hl 2 rfl) ?_
      have bx_4 : (0 : Int) ≤ (j1 428 (x.toInt).toNat).toInt ∧ (j1 428 (x.toInt).toNat).toInt ≤ 108 := hO_j1 428 (x.toInt).toNat
      refine h_iald hx hb hK hH (by decide) (rfl : kd 428 = 13) (s_vin (N := 3) (rfl : x.toInt = _) (rfl : ln 428 = 3) (by omega) (by omega)) dX12_skip_12 ?_
      have ek_5 : x.toNatClampNeg = (x.toInt).toNat := (s_cl (show x.toInt = x.toInt by omega))
      refine sj_i (y := (j1 428 (x.toInt).toNat)) (by rw [ek_5]) ?_
      refine lv_bipush (v := 8) hx hb dX12_skip_13 (by decide) ?_
      refine lv_icmp_ge (tgt := 46) hx hb dX12_skip_15 (by decide) (fun c_6 => ?_) (fun c_6 => ?_)
      · skip
        have h_7 := s_le (show (8 : Int32).toInt = 8 from rfl) (rfl : (j1 428 (x.toInt).toNat).toInt = _) c_6
        refine lv_aload_n hx hb dX12_skip_46 rfl (lv_at hl 1 rfl) ?_
        refine h_getr (ci := 12) (C := RX12) (F := TX12) (N := 86) hx hb hts in12 hown hK hH (by decide) (rfl : kd 36 = 12) (by decide) rfl 84 (by decide) wd1 (fun _ h9 => h9) (by decide) rfl (t := 428) (hR 36 84 rfl) (by decide) dX12_skip_47 ?_
        refine lv_iload_n hx hb dX12_skip_50 rfl (lv_at hl 2 rfl) ?_
        refine h_iald hx hb hK hH (by decide) (rfl : kd 428 = 13) (s_vin (N := 3) (rfl : x.toInt = _) (rfl : ln 428 = 3) (by omega) (by omega)) dX12_skip_51 ?_
        have ek_8 : x.toNatClampNeg = (x.toInt).toNat := (s_cl (show x.toInt = x.toInt by omega))
        refine sj_i (y := (j1 428 (x.toInt).toNat)) (by rw [ek_8]) ?_
        refine lv_bipush (v := 8) hx hb dX12_skip_52 (by decide) ?_
        refine lv_icmp_lt (tgt := 93) hx hb dX12_skip_54 (by decide) (fun h => absurd h (p_nlt (rfl : (j1 428 (x.toInt).toNat).toInt = _) (show (8 : Int32).toInt = 8 from rfl) (by omega))) (fun _ => ?_)
        refine lv_aload_n hx hb dX12_skip_57 rfl (lv_at hl 1 rfl) ?_
        refine h_getr (ci := 12) (C := RX12) (F := TX12) (N := 86) hx hb hts in12 hown hK hH (by decide) (rfl : kd 36 = 12) (by decide) rfl 84 (by decide) wd1 (fun _ h9 => h9) (by decide) rfl (t := 428) (hR 36 84 rfl) (by decide) dX12_skip_58 ?_
        refine lv_iload_n hx hb dX12_skip_61 rfl (lv_at hl 2 rfl) ?_
        refine h_iald hx hb hK hH (by decide) (rfl : kd 428 = 13) (s_vin (N := 3) (rfl : x.toInt = _) (rfl : ln 428 = 3) (by omega) (by omega)) dX12_skip_62 ?_
        have ek_9 : x.toNatClampNeg = (x.toInt).toNat := (s_cl (show x.toInt = x.toInt by omega))
        refine sj_i (y := (j1 428 (x.toInt).toNat)) (by rw [ek_9]) ?_
        refine lv_bipush (v := 100) hx hb dX12_skip_63 (by decide) ?_
        refine lv_icmp_ge (tgt := 93) hx hb dX12_skip_65 (by decide) (fun c_10 => ?_) (fun c_10 => ?_)
        · skip
          have h_11 := s_le (show (100 : Int32).toInt = 100 from rfl) (rfl : (j1 428 (x.toInt).toNat).toInt = _) c_10
          -- loop at 93
          have lp_12 : ∀ (fuel_lp_12 : Nat)  (j2 : Nat → Nat → Int32) (H : Heap) (locs : List Loc) (ls : Array Slot), (108 - (j2 428 x.toInt.toNat).toInt).toNat < fuel_lp_12 → mwrF i (i 427 x.toInt.toNat).toInt.toNat (j2 428 x.toInt.toNat).toInt = mwrF i (i 427 x.toInt.toNat).toInt.toNat (i 428 x.toInt.toNat).toInt → nxO i j2 x.toInt.toNat → skB i (i 427 x.toInt.toNat).toInt.toNat (j2 428 x.toInt.toNat).toInt → OkI j2 → (∀ a b, ¬ ((a = 36 ∧ (b = 65 ∨ b = 66)) ∨ a = 418 ∨ a = 419 ∨ a = 428) → j2 a b = j1 a b) → lv_has ls 3 [(2, .int (i 427 (x.toInt).toNat)), (0, .ref (g 36)), (1, .int x)] → sj_H D A (hwc g ka j2 r L d) H → va_S A s.heap H locs → W p l e (headSpec wsX12_skip ({ frames := 6, cells := 0, slots := 0, locals := 136 })).room s m ([.ref (g 36), .int x] : List Value).toArray below meth c H locs 0 0 (MQ below (sj_Qv (S := (Nat → Nat → Int32)) D (fun u => OkI u ∧ (∀ a b, ¬ ((a = 36 ∧ (b = 65 ∨ b = 66)) ∨ a = 418 ∨ a = 419 ∨ a = 428) → u a b = i a b) ∧ (mwrF i (i 427 x.toInt.toNat).toInt.toNat (u 428 x.toInt.toNat).toInt = mwrF i (i 427 x.toInt.toNat).toInt.toNat (i 428 x.toInt.toNat).toInt) ∧ (nxO i u x.toInt.toNat) ∧ (skB i (i 427 x.toInt.toNat).toInt.toNat (u 428 x.toInt.toNat).toInt) ∧ (skC i (i 427 x.toInt.toNat).toInt.toNat (u 428 x.toInt.toNat).toInt)) (fun u => hwc g ka u r L d) (fun _ => []) A) ([.ref (g 36), .int x] : List Value).toArray s 0 0 A) (F0 m 93 ls []) := by
            intro fuel_lp_12
            induction fuel_lp_12 with
            | zero => intros; omega
            | succ fuel_lp_12 ih_lp_12 =>
              intro j2 H locs ls hm hi_lp_12_0 hi_lp_12_1 hi_lp_12_2 hO_j2 hfr_j2 hl hH hS
              refine lv_aload_n hx hb dX12_skip_93 rfl (lv_at hl 1 rfl) ?_
              refine h_getr (ci := 12) (C := RX12) (F := TX12) (N := 86) hx hb hts in12 hown hK hH (by decide) (rfl : kd 36 = 12) (by decide) rfl 84 (by decide) wd1 (fun _ h9 => h9) (by decide) rfl (t := 428) (hR 36 84 rfl) (by decide) dX12_skip_94 ?_
              refine lv_iload_n hx hb dX12_skip_97 rfl (lv_at hl 2 rfl) ?_
              have bx_13 : (0 : Int) ≤ (j2 428 (x.toInt).toNat).toInt ∧ (j2 428 (x.toInt).toNat).toInt ≤ 108 := hO_j2 428 (x.toInt).toNat
              refine h_iald hx hb hK hH (by decide) (rfl : kd 428 = 13) (s_vin (N := 3) (rfl : x.toInt = _) (rfl : ln 428 = 3) (by omega) (by omega)) dX12_skip_98 ?_
              have ek_14 : x.toNatClampNeg = (x.toInt).toNat := (s_cl (show x.toInt = x.toInt by omega))
              refine sj_i (y := (j2 428 (x.toInt).toNat)) (by rw [ek_14]) ?_
              refine lv_bipush (v := 100) hx hb dX12_skip_99 (by decide) ?_
              refine lv_icmp_lt (tgt := 146) hx hb dX12_skip_101 (by decide) (fun c_15 => ?_) (fun c_15 => ?_)
              · skip
                have h_16 := s_lt (rfl : (j2 428 (x.toInt).toNat).toInt = _) (show (100 : Int32).toInt = 100 from rfl) c_15
                have hnx_17 : (j2 428 x.toInt.toNat).toInt = ((j2 428 (x.toInt).toNat) : Int32).toInt := congrArg Int32.toInt (rfl)
                have hnx_17l : (100 : Int32).toInt = 100 := rfl
                have hV_18 : mwrF i (i 427 x.toInt.toNat).toInt.toNat (j2 428 x.toInt.toNat).toInt = mwrF i (i 427 x.toInt.toNat).toInt.toNat (i 428 x.toInt.toNat).toInt := (by rw [show (j2 428 x.toInt.toNat).toInt = (j2 428 x.toInt.toNat).toInt by omega]; exact hi_lp_12_0)
                have hV_19 : nxO i j2 x.toInt.toNat := (fun k hk => (hi_lp_12_1 k hk))
                have hV_20 : skB i (i 427 x.toInt.toNat).toInt.toNat (j2 428 x.toInt.toNat).toInt := (by rw [show (j2 428 x.toInt.toNat).toInt = (j2 428 x.toInt.toNat).toInt by omega]; exact hi_lp_12_2)
                have hV_21 : skC i (i 427 x.toInt.toNat).toInt.toNat (j2 428 x.toInt.toNat).toInt := (fun q1 q2 => by exfalso; omega)
                exact sj_vret hx hb hr hlocks hS j2 ⟨hO_j2, (fun a b ha => ((hfr_j2 a b (by omega)).trans (hfr_j1 a b (by omega)))), hV_18, hV_19, hV_20, hV_21⟩ hH (sj_Knil hK) (Nat.le_of_ble_eq_true rfl) (Nat.le_of_ble_eq_true rfl) dX12_skip_146
              · skip
                have h_22 := s_nlt (rfl : (j2 428 (x.toInt).toNat).toInt = _) (show (100 : Int32).toInt = 100 from rfl) c_15
                refine lv_aload_n hx hb dX12_skip_104 rfl (lv_at hl 1 rfl) ?_
                refine h_getr (ci := 12) (C := RX12) (F := TX12) (N := 86) hx hb hts in12 hown hK hH (by decide) (rfl : kd 36 = 12) (by decide) rfl 84 (by decide) wd1 (fun _ h9 => h9) (by decide) rfl (t := 428) (hR 36 84 rfl) (by decide) dX12_skip_105 ?_
                refine lv_iload_n hx hb dX12_skip_108 rfl (lv_at hl 2 rfl) ?_
                refine h_iald hx hb hK hH (by decide) (rfl : kd 428 = 13) (s_vin (N := 3) (rfl : x.toInt = _) (rfl : ln 428 = 3) (by omega) (by omega)) dX12_skip_109 ?_
                have ek_23 : x.toNatClampNeg = (x.toInt).toNat := (s_cl (show x.toInt = x.toInt by omega))
                refine sj_i (y := (j2 428 (x.toInt).toNat)) (by rw [ek_23]) ?_
                refine lv_bipush (v := 108) hx hb dX12_skip_110 (by decide) ?_
                refine lv_icmp_ge (tgt := 146) hx hb dX12_skip_112 (by decide) (fun c_24 => ?_) (fun c_24 => ?_)
                · skip
                  have h_25 := s_le (show (108 : Int32).toInt = 108 from rfl) (rfl : (j2 428 (x.toInt).toNat).toInt = _) c_24
                  have hnx_26 : (j2 428 x.toInt.toNat).toInt = ((j2 428 (x.toInt).toNat) : Int32).toInt := congrArg Int32.toInt (rfl)
                  have hnx_26l : (100 : Int32).toInt = 100 := rfl
                  have hV_27 : mwrF i (i 427 x.toInt.toNat).toInt.toNat (j2 428 x.toInt.toNat).toInt = mwrF i (i 427 x.toInt.toNat).toInt.toNat (i 428 x.toInt.toNat).toInt := (by rw [show (j2 428 x.toInt.toNat).toInt = (j2 428 x.toInt.toNat).toInt by omega]; exact hi_lp_12_0)
                  have hV_28 : nxO i j2 x.toInt.toNat := (fun k hk => (hi_lp_12_1 k hk))
                  have hV_29 : skB i (i 427 x.toInt.toNat).toInt.toNat (j2 428 x.toInt.toNat).toInt := (by rw [show (j2 428 x.toInt.toNat).toInt = (j2 428 x.toInt.toNat).toInt by omega]; exact hi_lp_12_2)
                  have hV_30 : skC i (i 427 x.toInt.toNat).toInt.toNat (j2 428 x.toInt.toNat).toInt := (fun q1 q2 => by exfalso; omega)
                  exact sj_vret hx hb hr hlocks hS j2 ⟨hO_j2, (fun a b ha => ((hfr_j2 a b (by omega)).trans (hfr_j1 a b (by omega)))), hV_27, hV_28, hV_29, hV_30⟩ hH (sj_Knil hK) (Nat.le_of_ble_eq_true rfl) (Nat.le_of_ble_eq_true rfl) dX12_skip_146
                · skip
                  have h_31 := s_nle (show (108 : Int32).toInt = 108 from rfl) (rfl : (j2 428 (x.toInt).toNat).toInt = _) c_24
                  refine lv_aload_n hx hb dX12_skip_115 rfl (lv_at hl 1 rfl) ?_
                  refine lv_bipush (v := 107) hx hb dX12_skip_116 (by decide) ?_
                  refine lv_aload_n hx hb dX12_skip_118 rfl (lv_at hl 1 rfl) ?_
                  refine h_getr (ci := 12) (C := RX12) (F := TX12) (N := 86) hx hb hts in12 hown hK hH (by decide) (rfl : kd 36 = 12) (by decide) rfl 84 (by decide) wd1 (fun _ h9 => h9) (by decide) rfl (t := 428) (hR 36 84 rfl) (by decide) dX12_skip_119 ?_
                  refine lv_iload_n hx hb dX12_skip_122 rfl (lv_at hl 2 rfl) ?_
                  refine h_iald hx hb hK hH (by decide) (rfl : kd 428 = 13) (s_vin (N := 3) (rfl : x.toInt = _) (rfl : ln 428 = 3) (by omega) (by omega)) dX12_skip_123 ?_
                  have ek_32 : x.toNatClampNeg = (x.toInt).toNat := (s_cl (show x.toInt = x.toInt by omega))
                  refine sj_i (y := (j2 428 (x.toInt).toNat)) (by rw [ek_32]) ?_
                  refine lv_isub hx hb dX12_skip_124 ?_
                  obtain ⟨z_33, ez_33, hz_33⟩ := s_sub (show (107 : Int32).toInt = 107 from rfl) (rfl : (j2 428 (x.toInt).toNat).toInt = _) (by omega) (by omega)
                  refine sj_i ez_33 ?_
                  refine lv_iconst (v := 0) hx hb dX12_skip_125 (by decide) ?_
                  refine lv_iload_n hx hb dX12_skip_126 rfl (lv_at hl 0 rfl) ?_
                  have hl_34 : (0 : Int32).toInt = 0 := rfl
                  refine x_calli (va_runV (As := [.int z_33, .int 0, .int (i 427 (x.toInt).toNat)]) (rest := []) ⟨hx, hb, hml, hown, hts⟩ (m_due l D g ka ad j2 r L d z_33 0 (i 427 (x.toInt).toNat) hO_j2 hR H.size (by first | omega | decide) (by first | omega | decide) (by first | omega | decide) (by first | omega | decide) (by first | omega | decide) (by first | omega | decide)) (cwV 3 hts gX12_skip_X12_due rfl rfl rfl (by decide +kernel) ⟨(Nat.le_of_ble_eq_true rfl), (Nat.le_of_ble_eq_true rfl)⟩) (x_preV (q := (RX12, TX12, 86)) hH hK (q_obj (by decide) (rfl : kd 36 = 12) (by decide)) rfl gxb (gxw hE hS (x_F hH hS hA))) rfl rfl hl.1 rfl (lv_room (Nat.le_of_ble_eq_true rfl)) dX12_skip_127 ⟨(Nat.le_of_ble_eq_true rfl), (Nat.le_of_ble_eq_true rfl)⟩) hH hS hA rfl rfl (fun r_35 im_37 H locs hw_36 hH hS => ?_)
                  have hH : sj_H D A (hwc g ka im_37 r L d) H := hH
                  obtain ⟨hO_39, hfr_38, hr_40, hx2_41⟩ := hw_36
                  have hr_40 : (0 : Int) ≤ r_35.toInt ∧ r_35.toInt ≤ 1 := hr_40
                  have hbo_42 := b01_c hx2_41
                  rw [mdue_fr (i := i) (u := j2) ((hfr_j2 36 67 (by omega)).trans (hfr_j1 36 67 (by omega))) (funext fun b9 => ((hfr_j2 420 b9 (by omega)).trans (hfr_j1 420 b9 (by omega)))) (funext fun b9 => ((hfr_j2 416 b9 (by omega)).trans (hfr_j1 416 b9 (by omega)))) (funext fun b9 => ((hfr_j2 417 b9 (by omega)).trans (hfr_j1 417 b9 (by omega))))] at hbo_42
                  refine lv_if_ne (tgt := 146) hx hb dX12_skip_130 (by decide) (fun c_43 => ?_) (fun c_43 => ?_)
                  · skip
                    have h_44 := s_ne (rfl : r_35.toInt = _) (show (0 : Int32).toInt = 0 from rfl) c_43
                    have hnx_45 : (im_37 428 x.toInt.toNat).toInt = ((j2 428 (x.toInt).toNat) : Int32).toInt := congrArg Int32.toInt ((hfr_38 428 (x.toInt).toNat (by omega)))
                    have hnx_45l : (100 : Int32).toInt = 100 := rfl
                    have hV_46 : mwrF i (i 427 x.toInt.toNat).toInt.toNat (im_37 428 x.toInt.toNat).toInt = mwrF i (i 427 x.toInt.toNat).toInt.toNat (i 428 x.toInt.toNat).toInt := (by rw [show (im_37 428 x.toInt.toNat).toInt = (j2 428 x.toInt.toNat).toInt by omega]; exact hi_lp_12_0)
                    have hV_47 : nxO i im_37 x.toInt.toNat := (fun k hk => ((hfr_38 428 k (by omega)).trans (hi_lp_12_1 k hk)))
                    have hV_48 : skB i (i 427 x.toInt.toNat).toInt.toNat (im_37 428 x.toInt.toNat).toInt := (by rw [show (im_37 428 x.toInt.toNat).toInt = (j2 428 x.toInt.toNat).toInt by omega]; exact hi_lp_12_2)
                    have hV_49 : skC i (i 427 x.toInt.toNat).toInt.toNat (im_37 428 x.toInt.toNat).toInt := (fun q1 q2 => (by have h9 := (hbo_42.resolve_right (fun q => by have := q.1; omega)).2; unfold mdP; rw [show (107 - (im_37 428 x.toInt.toNat).toInt).toNat = z_33.toInt.toNat by omega]; exact (congrArg (fun q => mdue i 0 q _) (show i 400 (i 427 x.toInt.toNat).toInt.toNat = j2 400 (i 427 (x.toInt).toNat).toInt.toNat from (congrArg (i 400) (by omega)).trans (((hfr_j2 400 _ (by omega)).trans (hfr_j1 400 _ (by omega)))).symm)).trans h9))
                    exact sj_vret hx hb hr hlocks hS im_37 ⟨hO_39, (fun a b ha => ((hfr_38 a b (by omega)).trans ((hfr_j2 a b (by omega)).trans (hfr_j1 a b (by omega))))), hV_46, hV_47, hV_48, hV_49⟩ hH (sj_Knil hK) (Nat.le_of_ble_eq_true rfl) (Nat.le_of_ble_eq_true rfl) dX12_skip_146
                  · skip
                    have h_50 := s_eq (rfl : r_35.toInt = _) (show (0 : Int32).toInt = 0 from rfl) c_43
                    refine lv_aload_n hx hb dX12_skip_133 rfl (lv_at hl 1 rfl) ?_
                    refine h_getr (ci := 12) (C := RX12) (F := TX12) (N := 86) hx hb hts in12 hown hK hH (by decide) (rfl : kd 36 = 12) (by decide) rfl 84 (by decide) wd1 (fun _ h9 => h9) (by decide) rfl (t := 428) (hR 36 84 rfl) (by decide) dX12_skip_134 ?_
                    refine lv_iload_n hx hb dX12_skip_137 rfl (lv_at hl 2 rfl) ?_
                    refine lv_dup2_11 hx hb dX12_skip_138 rfl rfl ?_
                    refine h_iald hx hb hK hH (by decide) (rfl : kd 428 = 13) (s_vin (N := 3) (rfl : x.toInt = _) (rfl : ln 428 = 3) (by omega) (by omega)) dX12_skip_139 ?_
                    have ek_51 : x.toNatClampNeg = (x.toInt).toNat := (s_cl (show x.toInt = x.toInt by omega))
                    refine sj_i (y := (j2 428 (x.toInt).toNat)) (by rw [ek_51]; exact (hfr_38 428 (x.toInt).toNat (by omega))) ?_
                    refine lv_iconst (v := 1) hx hb dX12_skip_140 (by decide) ?_
                    refine lv_iadd hx hb dX12_skip_141 ?_
                    obtain ⟨z_52, ez_52, hz_52⟩ := s_add (rfl : (j2 428 (x.toInt).toNat).toInt = _) (show (1 : Int32).toInt = 1 from rfl) (by omega) (by omega)
                    refine sj_i ez_52 ?_
                    have hO_53 := okp hO_39 (n := 428) (k := (x.toInt).toNat) (v := z_52) (show (0 : Int) ≤ (z_52 : Int32).toInt ∧ (z_52 : Int32).toInt ≤ 108 from ⟨by omega, by omega⟩)
                    refine h_iast hx hb hK hH hS (by decide) (rfl : kd 428 = 13) (s_vin (N := 3) (rfl : x.toInt = _) (rfl : ln 428 = 3) (by omega) (by omega)) dX12_skip_142 (fun H locs hH hS => ?_)
                    rw [s_cl (show x.toInt = x.toInt by omega)] at hH
                    refine lv_goto (tgt := 93) hx hb dX12_skip_143 (by decide) ?_
                    have hnx_54 : ((up2 im_37 428 (x.toInt).toNat z_52) 428 x.toInt.toNat).toInt = (z_52 : Int32).toInt := congrArg Int32.toInt ((up2_at _ _ _ _))
                    have hnx_54l : (100 : Int32).toInt = 100 := rfl
                    have hnx_55 : ((up2 im_37 428 (x.toInt).toNat z_52) 428 x.toInt.toNat).toInt = (z_52 : Int32).toInt := congrArg Int32.toInt ((up2_at _ _ _ _))
                    have hnx_55l : (100 : Int32).toInt = 100 := rfl
                    have hnx_56 : ((up2 im_37 428 (x.toInt).toNat z_52) 428 x.toInt.toNat).toInt = (z_52 : Int32).toInt := congrArg Int32.toInt ((up2_at _ _ _ _))
                    have hnx_56l : (100 : Int32).toInt = 100 := rfl
                    exact ih_lp_12  _ _ _ ls (by omega) ((mwr_a (by omega) (by omega) (by omega) (by have h9 := (hbo_42.resolve_left (fun q => by have := q.1; omega)).2; unfold mdP; rw [show (107 - (j2 428 x.toInt.toNat).toInt).toNat = z_33.toInt.toNat by omega]; exact (congrArg (fun q => mdue i 0 q _) (show i 400 (i 427 x.toInt.toNat).toInt.toNat = j2 400 (i 427 (x.toInt).toNat).toInt.toNat from (congrArg (i 400) (by omega)).trans (((hfr_j2 400 _ (by omega)).trans (hfr_j1 400 _ (by omega)))).symm)).trans h9)).trans hi_lp_12_0) (fun k hk => ((up2_k _ _ (by omega)).trans ((hfr_38 428 k (by omega)).trans (hi_lp_12_1 k hk)))) ⟨fun q => by exfalso; omega, fun q1 q2 => by exfalso; omega⟩ hO_53 (fun a b ha => ((up2_o _ _ (by omega)).trans ((hfr_38 a b (by omega)).trans (hfr_j2 a b (by omega))))) (lv_sub hl [0, 1, 2] rfl) hH hS
          have hnx_57 : (j1 428 x.toInt.toNat).toInt = ((j1 428 (x.toInt).toNat) : Int32).toInt := congrArg Int32.toInt (rfl)
          have hnx_57l : (100 : Int32).toInt = 100 := rfl
          have hnx_58 : (j1 428 x.toInt.toNat).toInt = ((j1 428 (x.toInt).toNat) : Int32).toInt := congrArg Int32.toInt (rfl)
          have hnx_58l : (100 : Int32).toInt = 100 := rfl
          have hnx_59 : (j1 428 x.toInt.toNat).toInt = ((j1 428 (x.toInt).toNat) : Int32).toInt := congrArg Int32.toInt (rfl)
          have hnx_59l : (100 : Int32).toInt = 100 := rfl
          exact lp_12 _  _ _ _ ls (Nat.lt_succ_self _) (by rw [show (j1 428 x.toInt.toNat).toInt = (j1 428 x.toInt.toNat).toInt by omega]; exact hi_lp_3_0) (fun k hk => (hi_lp_3_1 k hk)) ⟨fun q => by exfalso; omega, fun q1 q2 => by omega⟩ hO_j1 (fun a b ha => rfl) (lv_sub hl [0, 1, 2] rfl) hH hS
        · skip
          have h_60 := s_nle (show (100 : Int32).toInt = 100 from rfl) (rfl : (j1 428 (x.toInt).toNat).toInt = _) c_10
          refine lv_aload_n hx hb dX12_skip_68 rfl (lv_at hl 1 rfl) ?_
          refine h_getr (ci := 12) (C := RX12) (F := TX12) (N := 86) hx hb hts in12 hown hK hH (by decide) (rfl : kd 36 = 12) (by decide) rfl 84 (by decide) wd1 (fun _ h9 => h9) (by decide) rfl (t := 428) (hR 36 84 rfl) (by decide) dX12_skip_69 ?_
          refine lv_iload_n hx hb dX12_skip_72 rfl (lv_at hl 2 rfl) ?_
          refine h_iald hx hb hK hH (by decide) (rfl : kd 428 = 13) (s_vin (N := 3) (rfl : x.toInt = _) (rfl : ln 428 = 3) (by omega) (by omega)) dX12_skip_73 ?_
          have ek_61 : x.toNatClampNeg = (x.toInt).toNat := (s_cl (show x.toInt = x.toInt by omega))
          refine sj_i (y := (j1 428 (x.toInt).toNat)) (by rw [ek_61]) ?_
          refine lv_bipush (v := 8) hx hb dX12_skip_74 (by decide) ?_
          refine lv_isub hx hb dX12_skip_76 ?_
          obtain ⟨z_62, ez_62, hz_62⟩ := s_sub (rfl : (j1 428 (x.toInt).toNat).toInt = _) (show (8 : Int32).toInt = 8 from rfl) (by omega) (by omega)
          refine sj_i ez_62 ?_
          refine lv_aload_n hx hb dX12_skip_77 rfl (lv_at hl 1 rfl) ?_
          refine lv_iload_n hx hb dX12_skip_78 rfl (lv_at hl 0 rfl) ?_
          refine x_calli (va_runV (As := [.int (i 427 (x.toInt).toNat)]) (rest := [.int z_62]) ⟨hx, hb, hml, hown, hts⟩ (m_caseSteps l D g ka ad j1 r L d (i 427 (x.toInt).toNat) hO_j1 hR H.size (by first | omega | decide) (by first | omega | decide)) (cwV 1 hts gX12_skip_X12_caseSteps rfl rfl rfl (by decide +kernel) ⟨(Nat.le_of_ble_eq_true rfl), (Nat.le_of_ble_eq_true rfl)⟩) (x_preV (q := (RX12, TX12, 86)) hH hK (q_obj (by decide) (rfl : kd 36 = 12) (by decide)) rfl gxb (gxw hE hS (x_F hH hS hA))) rfl rfl hl.1 rfl (lv_room (Nat.le_of_ble_eq_true rfl)) dX12_skip_79 ⟨(Nat.le_of_ble_eq_true rfl), (Nat.le_of_ble_eq_true rfl)⟩) hH hS hA rfl rfl (fun r_63 _ H locs hw_64 hH hS => ?_)
          obtain ⟨hr_66, he_67⟩ := hw_64
          have hr_66 : (0 : Int) ≤ r_63.toInt ∧ r_63.toInt ≤ 30 := hr_66
          rw [mcs_ld (show ldE i j1 from ⟨(hfr_j1 36 17 (by omega)), fun a h1 h2 => funext fun b9 => (hfr_j1 a b9 (by omega))⟩), show (i 427 (x.toInt).toNat).toInt.toNat = (i 427 x.toInt.toNat).toInt.toNat by omega] at he_67
          refine lv_icmp_lt (tgt := 93) hx hb dX12_skip_82 (by decide) (fun c_68 => ?_) (fun c_68 => ?_)
          · skip
            have h_69 := s_lt (rfl : z_62.toInt = _) (rfl : r_63.toInt = _) c_68
            -- loop at 93
            have lp_70 : ∀ (fuel_lp_70 : Nat)  (j2 : Nat → Nat → Int32) (H : Heap) (locs : List Loc) (ls : Array Slot), (108 - (j2 428 x.toInt.toNat).toInt).toNat < fuel_lp_70 → mwrF i (i 427 x.toInt.toNat).toInt.toNat (j2 428 x.toInt.toNat).toInt = mwrF i (i 427 x.toInt.toNat).toInt.toNat (i 428 x.toInt.toNat).toInt → nxO i j2 x.toInt.toNat → skB i (i 427 x.toInt.toNat).toInt.toNat (j2 428 x.toInt.toNat).toInt → OkI j2 → (∀ a b, ¬ ((a = 36 ∧ (b = 65 ∨ b = 66)) ∨ a = 418 ∨ a = 419 ∨ a = 428) → j2 a b = j1 a b) → lv_has ls 3 [(2, .int (i 427 (x.toInt).toNat)), (0, .ref (g 36)), (1, .int x)] → sj_H D A (hwc g ka j2 r L d) H → va_S A s.heap H locs → W p l e (headSpec wsX12_skip ({ frames := 6, cells := 0, slots := 0, locals := 136 })).room s m ([.ref (g 36), .int x] : List Value).toArray below meth c H locs 0 0 (MQ below (sj_Qv (S := (Nat → Nat → Int32)) D (fun u => OkI u ∧ (∀ a b, ¬ ((a = 36 ∧ (b = 65 ∨ b = 66)) ∨ a = 418 ∨ a = 419 ∨ a = 428) → u a b = i a b) ∧ (mwrF i (i 427 x.toInt.toNat).toInt.toNat (u 428 x.toInt.toNat).toInt = mwrF i (i 427 x.toInt.toNat).toInt.toNat (i 428 x.toInt.toNat).toInt) ∧ (nxO i u x.toInt.toNat) ∧ (skB i (i 427 x.toInt.toNat).toInt.toNat (u 428 x.toInt.toNat).toInt) ∧ (skC i (i 427 x.toInt.toNat).toInt.toNat (u 428 x.toInt.toNat).toInt)) (fun u => hwc g ka u r L d) (fun _ => []) A) ([.ref (g 36), .int x] : List Value).toArray s 0 0 A) (F0 m 93 ls []) := by
              intro fuel_lp_70
              induction fuel_lp_70 with
              | zero => intros; omega
              | succ fuel_lp_70 ih_lp_70 =>
                intro j2 H locs ls hm hi_lp_70_0 hi_lp_70_1 hi_lp_70_2 hO_j2 hfr_j2 hl hH hS
                refine lv_aload_n hx hb dX12_skip_93 rfl (lv_at hl 1 rfl) ?_
                refine h_getr (ci := 12) (C := RX12) (F := TX12) (N := 86) hx hb hts in12 hown hK hH (by decide) (rfl : kd 36 = 12) (by decide) rfl 84 (by decide) wd1 (fun _ h9 => h9) (by decide) rfl (t := 428) (hR 36 84 rfl) (by decide) dX12_skip_94 ?_
                refine lv_iload_n hx hb dX12_skip_97 rfl (lv_at hl 2 rfl) ?_
                have bx_71 : (0 : Int) ≤ (j2 428 (x.toInt).toNat).toInt ∧ (j2 428 (x.toInt).toNat).toInt ≤ 108 := hO_j2 428 (x.toInt).toNat
                refine h_iald hx hb hK hH (by decide) (rfl : kd 428 = 13) (s_vin (N := 3) (rfl : x.toInt = _) (rfl : ln 428 = 3) (by omega) (by omega)) dX12_skip_98 ?_
                have ek_72 : x.toNatClampNeg = (x.toInt).toNat := (s_cl (show x.toInt = x.toInt by omega))
                refine sj_i (y := (j2 428 (x.toInt).toNat)) (by rw [ek_72]) ?_
                refine lv_bipush (v := 100) hx hb dX12_skip_99 (by decide) ?_
                refine lv_icmp_lt (tgt := 146) hx hb dX12_skip_101 (by decide) (fun c_73 => ?_) (fun c_73 => ?_)
                · skip
                  have h_74 := s_lt (rfl : (j2 428 (x.toInt).toNat).toInt = _) (show (100 : Int32).toInt = 100 from rfl) c_73
                  have hnx_75 : (j2 428 x.toInt.toNat).toInt = ((j2 428 (x.toInt).toNat) : Int32).toInt := congrArg Int32.toInt (rfl)
                  have hnx_75l : (100 : Int32).toInt = 100 := rfl
                  have hV_76 : mwrF i (i 427 x.toInt.toNat).toInt.toNat (j2 428 x.toInt.toNat).toInt = mwrF i (i 427 x.toInt.toNat).toInt.toNat (i 428 x.toInt.toNat).toInt := (by rw [show (j2 428 x.toInt.toNat).toInt = (j2 428 x.toInt.toNat).toInt by omega]; exact hi_lp_70_0)
                  have hV_77 : nxO i j2 x.toInt.toNat := (fun k hk => (hi_lp_70_1 k hk))
                  have hV_78 : skB i (i 427 x.toInt.toNat).toInt.toNat (j2 428 x.toInt.toNat).toInt := (by rw [show (j2 428 x.toInt.toNat).toInt = (j2 428 x.toInt.toNat).toInt by omega]; exact hi_lp_70_2)
                  have hV_79 : skC i (i 427 x.toInt.toNat).toInt.toNat (j2 428 x.toInt.toNat).toInt := (fun q1 q2 => by exfalso; omega)
                  exact sj_vret hx hb hr hlocks hS j2 ⟨hO_j2, (fun a b ha => ((hfr_j2 a b (by omega)).trans (hfr_j1 a b (by omega)))), hV_76, hV_77, hV_78, hV_79⟩ hH (sj_Knil hK) (Nat.le_of_ble_eq_true rfl) (Nat.le_of_ble_eq_true rfl) dX12_skip_146
                · skip
                  have h_80 := s_nlt (rfl : (j2 428 (x.toInt).toNat).toInt = _) (show (100 : Int32).toInt = 100 from rfl) c_73
                  refine lv_aload_n hx hb dX12_skip_104 rfl (lv_at hl 1 rfl) ?_
                  refine h_getr (ci := 12) (C := RX12) (F := TX12) (N := 86) hx hb hts in12 hown hK hH (by decide) (rfl : kd 36 = 12) (by decide) rfl 84 (by decide) wd1 (fun _ h9 => h9) (by decide) rfl (t := 428) (hR 36 84 rfl) (by decide) dX12_skip_105 ?_
                  refine lv_iload_n hx hb dX12_skip_108 rfl (lv_at hl 2 rfl) ?_
                  refine h_iald hx hb hK hH (by decide) (rfl : kd 428 = 13) (s_vin (N := 3) (rfl : x.toInt = _) (rfl : ln 428 = 3) (by omega) (by omega)) dX12_skip_109 ?_
                  have ek_81 : x.toNatClampNeg = (x.toInt).toNat := (s_cl (show x.toInt = x.toInt by omega))
                  refine sj_i (y := (j2 428 (x.toInt).toNat)) (by rw [ek_81]) ?_
                  refine lv_bipush (v := 108) hx hb dX12_skip_110 (by decide) ?_
                  refine lv_icmp_ge (tgt := 146) hx hb dX12_skip_112 (by decide) (fun c_82 => ?_) (fun c_82 => ?_)
                  · skip
                    have h_83 := s_le (show (108 : Int32).toInt = 108 from rfl) (rfl : (j2 428 (x.toInt).toNat).toInt = _) c_82
                    have hnx_84 : (j2 428 x.toInt.toNat).toInt = ((j2 428 (x.toInt).toNat) : Int32).toInt := congrArg Int32.toInt (rfl)
                    have hnx_84l : (100 : Int32).toInt = 100 := rfl
                    have hV_85 : mwrF i (i 427 x.toInt.toNat).toInt.toNat (j2 428 x.toInt.toNat).toInt = mwrF i (i 427 x.toInt.toNat).toInt.toNat (i 428 x.toInt.toNat).toInt := (by rw [show (j2 428 x.toInt.toNat).toInt = (j2 428 x.toInt.toNat).toInt by omega]; exact hi_lp_70_0)
                    have hV_86 : nxO i j2 x.toInt.toNat := (fun k hk => (hi_lp_70_1 k hk))
                    have hV_87 : skB i (i 427 x.toInt.toNat).toInt.toNat (j2 428 x.toInt.toNat).toInt := (by rw [show (j2 428 x.toInt.toNat).toInt = (j2 428 x.toInt.toNat).toInt by omega]; exact hi_lp_70_2)
                    have hV_88 : skC i (i 427 x.toInt.toNat).toInt.toNat (j2 428 x.toInt.toNat).toInt := (fun q1 q2 => by exfalso; omega)
                    exact sj_vret hx hb hr hlocks hS j2 ⟨hO_j2, (fun a b ha => ((hfr_j2 a b (by omega)).trans (hfr_j1 a b (by omega)))), hV_85, hV_86, hV_87, hV_88⟩ hH (sj_Knil hK) (Nat.le_of_ble_eq_true rfl) (Nat.le_of_ble_eq_true rfl) dX12_skip_146
                  · skip
                    have h_89 := s_nle (show (108 : Int32).toInt = 108 from rfl) (rfl : (j2 428 (x.toInt).toNat).toInt = _) c_82
                    refine lv_aload_n hx hb dX12_skip_115 rfl (lv_at hl 1 rfl) ?_
                    refine lv_bipush (v := 107) hx hb dX12_skip_116 (by decide) ?_
                    refine lv_aload_n hx hb dX12_skip_118 rfl (lv_at hl 1 rfl) ?_
                    refine h_getr (ci := 12) (C := RX12) (F := TX12) (N := 86) hx hb hts in12 hown hK hH (by decide) (rfl : kd 36 = 12) (by decide) rfl 84 (by decide) wd1 (fun _ h9 => h9) (by decide) rfl (t := 428) (hR 36 84 rfl) (by decide) dX12_skip_119 ?_
                    refine lv_iload_n hx hb dX12_skip_122 rfl (lv_at hl 2 rfl) ?_
                    refine h_iald hx hb hK hH (by decide) (rfl : kd 428 = 13) (s_vin (N := 3) (rfl : x.toInt = _) (rfl : ln 428 = 3) (by omega) (by omega)) dX12_skip_123 ?_
                    have ek_90 : x.toNatClampNeg = (x.toInt).toNat := (s_cl (show x.toInt = x.toInt by omega))
                    refine sj_i (y := (j2 428 (x.toInt).toNat)) (by rw [ek_90]) ?_
                    refine lv_isub hx hb dX12_skip_124 ?_
                    obtain ⟨z_91, ez_91, hz_91⟩ := s_sub (show (107 : Int32).toInt = 107 from rfl) (rfl : (j2 428 (x.toInt).toNat).toInt = _) (by omega) (by omega)
                    refine sj_i ez_91 ?_
                    refine lv_iconst (v := 0) hx hb dX12_skip_125 (by decide) ?_
                    refine lv_iload_n hx hb dX12_skip_126 rfl (lv_at hl 0 rfl) ?_
                    have hl_92 : (0 : Int32).toInt = 0 := rfl
                    refine x_calli (va_runV (As := [.int z_91, .int 0, .int (i 427 (x.toInt).toNat)]) (rest := []) ⟨hx, hb, hml, hown, hts⟩ (m_due l D g ka ad j2 r L d z_91 0 (i 427 (x.toInt).toNat) hO_j2 hR H.size (by first | omega | decide) (by first | omega | decide) (by first | omega | decide) (by first | omega | decide) (by first | omega | decide) (by first | omega | decide)) (cwV 3 hts gX12_skip_X12_due rfl rfl rfl (by decide +kernel) ⟨(Nat.le_of_ble_eq_true rfl), (Nat.le_of_ble_eq_true rfl)⟩) (x_preV (q := (RX12, TX12, 86)) hH hK (q_obj (by decide) (rfl : kd 36 = 12) (by decide)) rfl gxb (gxw hE hS (x_F hH hS hA))) rfl rfl hl.1 rfl (lv_room (Nat.le_of_ble_eq_true rfl)) dX12_skip_127 ⟨(Nat.le_of_ble_eq_true rfl), (Nat.le_of_ble_eq_true rfl)⟩) hH hS hA rfl rfl (fun r_93 im_95 H locs hw_94 hH hS => ?_)
                    have hH : sj_H D A (hwc g ka im_95 r L d) H := hH
                    obtain ⟨hO_97, hfr_96, hr_98, hx2_99⟩ := hw_94
                    have hr_98 : (0 : Int) ≤ r_93.toInt ∧ r_93.toInt ≤ 1 := hr_98
                    have hbo_100 := b01_c hx2_99
                    rw [mdue_fr (i := i) (u := j2) ((hfr_j2 36 67 (by omega)).trans (hfr_j1 36 67 (by omega))) (funext fun b9 => ((hfr_j2 420 b9 (by omega)).trans (hfr_j1 420 b9 (by omega)))) (funext fun b9 => ((hfr_j2 416 b9 (by omega)).trans (hfr_j1 416 b9 (by omega)))) (funext fun b9 => ((hfr_j2 417 b9 (by omega)).trans (hfr_j1 417 b9 (by omega))))] at hbo_100
                    refine lv_if_ne (tgt := 146) hx hb dX12_skip_130 (by decide) (fun c_101 => ?_) (fun c_101 => ?_)
                    · skip
                      have h_102 := s_ne (rfl : r_93.toInt = _) (show (0 : Int32).toInt = 0 from rfl) c_101
                      have hnx_103 : (im_95 428 x.toInt.toNat).toInt = ((j2 428 (x.toInt).toNat) : Int32).toInt := congrArg Int32.toInt ((hfr_96 428 (x.toInt).toNat (by omega)))
                      have hnx_103l : (100 : Int32).toInt = 100 := rfl
                      have hV_104 : mwrF i (i 427 x.toInt.toNat).toInt.toNat (im_95 428 x.toInt.toNat).toInt = mwrF i (i 427 x.toInt.toNat).toInt.toNat (i 428 x.toInt.toNat).toInt := (by rw [show (im_95 428 x.toInt.toNat).toInt = (j2 428 x.toInt.toNat).toInt by omega]; exact hi_lp_70_0)
                      have hV_105 : nxO i im_95 x.toInt.toNat := (fun k hk => ((hfr_96 428 k (by omega)).trans (hi_lp_70_1 k hk)))
                      have hV_106 : skB i (i 427 x.toInt.toNat).toInt.toNat (im_95 428 x.toInt.toNat).toInt := (by rw [show (im_95 428 x.toInt.toNat).toInt = (j2 428 x.toInt.toNat).toInt by omega]; exact hi_lp_70_2)
                      have hV_107 : skC i (i 427 x.toInt.toNat).toInt.toNat (im_95 428 x.toInt.toNat).toInt := (fun q1 q2 => (by have h9 := (hbo_100.resolve_right (fun q => by have := q.1; omega)).2; unfold mdP; rw [show (107 - (im_95 428 x.toInt.toNat).toInt).toNat = z_91.toInt.toNat by omega]; exact (congrArg (fun q => mdue i 0 q _) (show i 400 (i 427 x.toInt.toNat).toInt.toNat = j2 400 (i 427 (x.toInt).toNat).toInt.toNat from (congrArg (i 400) (by omega)).trans (((hfr_j2 400 _ (by omega)).trans (hfr_j1 400 _ (by omega)))).symm)).trans h9))
                      exact sj_vret hx hb hr hlocks hS im_95 ⟨hO_97, (fun a b ha => ((hfr_96 a b (by omega)).trans ((hfr_j2 a b (by omega)).trans (hfr_j1 a b (by omega))))), hV_104, hV_105, hV_106, hV_107⟩ hH (sj_Knil hK) (Nat.le_of_ble_eq_true rfl) (Nat.le_of_ble_eq_true rfl) dX12_skip_146
                    · skip
                      have h_108 := s_eq (rfl : r_93.toInt = _) (show (0 : Int32).toInt = 0 from rfl) c_101
                      refine lv_aload_n hx hb dX12_skip_133 rfl (lv_at hl 1 rfl) ?_
                      refine h_getr (ci := 12) (C := RX12) (F := TX12) (N := 86) hx hb hts in12 hown hK hH (by decide) (rfl : kd 36 = 12) (by decide) rfl 84 (by decide) wd1 (fun _ h9 => h9) (by decide) rfl (t := 428) (hR 36 84 rfl) (by decide) dX12_skip_134 ?_
                      refine lv_iload_n hx hb dX12_skip_137 rfl (lv_at hl 2 rfl) ?_
                      refine lv_dup2_11 hx hb dX12_skip_138 rfl rfl ?_
                      refine h_iald hx hb hK hH (by decide) (rfl : kd 428 = 13) (s_vin (N := 3) (rfl : x.toInt = _) (rfl : ln 428 = 3) (by omega) (by omega)) dX12_skip_139 ?_
                      have ek_109 : x.toNatClampNeg = (x.toInt).toNat := (s_cl (show x.toInt = x.toInt by omega))
                      refine sj_i (y := (j2 428 (x.toInt).toNat)) (by rw [ek_109]; exact (hfr_96 428 (x.toInt).toNat (by omega))) ?_
                      refine lv_iconst (v := 1) hx hb dX12_skip_140 (by decide) ?_
                      refine lv_iadd hx hb dX12_skip_141 ?_
                      obtain ⟨z_110, ez_110, hz_110⟩ := s_add (rfl : (j2 428 (x.toInt).toNat).toInt = _) (show (1 : Int32).toInt = 1 from rfl) (by omega) (by omega)
                      refine sj_i ez_110 ?_
                      have hO_111 := okp hO_97 (n := 428) (k := (x.toInt).toNat) (v := z_110) (show (0 : Int) ≤ (z_110 : Int32).toInt ∧ (z_110 : Int32).toInt ≤ 108 from ⟨by omega, by omega⟩)
                      refine h_iast hx hb hK hH hS (by decide) (rfl : kd 428 = 13) (s_vin (N := 3) (rfl : x.toInt = _) (rfl : ln 428 = 3) (by omega) (by omega)) dX12_skip_142 (fun H locs hH hS => ?_)
                      rw [s_cl (show x.toInt = x.toInt by omega)] at hH
                      refine lv_goto (tgt := 93) hx hb dX12_skip_143 (by decide) ?_
                      have hnx_112 : ((up2 im_95 428 (x.toInt).toNat z_110) 428 x.toInt.toNat).toInt = (z_110 : Int32).toInt := congrArg Int32.toInt ((up2_at _ _ _ _))
                      have hnx_112l : (100 : Int32).toInt = 100 := rfl
                      have hnx_113 : ((up2 im_95 428 (x.toInt).toNat z_110) 428 x.toInt.toNat).toInt = (z_110 : Int32).toInt := congrArg Int32.toInt ((up2_at _ _ _ _))
                      have hnx_113l : (100 : Int32).toInt = 100 := rfl
                      have hnx_114 : ((up2 im_95 428 (x.toInt).toNat z_110) 428 x.toInt.toNat).toInt = (z_110 : Int32).toInt := congrArg Int32.toInt ((up2_at _ _ _ _))
                      have hnx_114l : (100 : Int32).toInt = 100 := rfl
                      exact ih_lp_70  _ _ _ ls (by omega) ((mwr_a (by omega) (by omega) (by omega) (by have h9 := (hbo_100.resolve_left (fun q => by have := q.1; omega)).2; unfold mdP; rw [show (107 - (j2 428 x.toInt.toNat).toInt).toNat = z_91.toInt.toNat by omega]; exact (congrArg (fun q => mdue i 0 q _) (show i 400 (i 427 x.toInt.toNat).toInt.toNat = j2 400 (i 427 (x.toInt).toNat).toInt.toNat from (congrArg (i 400) (by omega)).trans (((hfr_j2 400 _ (by omega)).trans (hfr_j1 400 _ (by omega)))).symm)).trans h9)).trans hi_lp_70_0) (fun k hk => ((up2_k _ _ (by omega)).trans ((hfr_96 428 k (by omega)).trans (hi_lp_70_1 k hk)))) ⟨fun q => by exfalso; omega, fun q1 q2 => by exfalso; omega⟩ hO_111 (fun a b ha => ((up2_o _ _ (by omega)).trans ((hfr_96 a b (by omega)).trans (hfr_j2 a b (by omega))))) (lv_sub hl [0, 1, 2] rfl) hH hS
            have hnx_115 : (j1 428 x.toInt.toNat).toInt = ((j1 428 (x.toInt).toNat) : Int32).toInt := congrArg Int32.toInt (rfl)
            have hnx_115l : (100 : Int32).toInt = 100 := rfl
            have hnx_116 : (j1 428 x.toInt.toNat).toInt = ((j1 428 (x.toInt).toNat) : Int32).toInt := congrArg Int32.toInt (rfl)
            have hnx_116l : (100 : Int32).toInt = 100 := rfl
            have hnx_117 : (j1 428 x.toInt.toNat).toInt = ((j1 428 (x.toInt).toNat) : Int32).toInt := congrArg Int32.toInt (rfl)
            have hnx_117l : (100 : Int32).toInt = 100 := rfl
            exact lp_70 _  _ _ _ ls (Nat.lt_succ_self _) (by rw [show (j1 428 x.toInt.toNat).toInt = (j1 428 x.toInt.toNat).toInt by omega]; exact hi_lp_3_0) (fun k hk => (hi_lp_3_1 k hk)) ⟨fun q => by exfalso; omega, fun q1 q2 => by omega⟩ hO_j1 (fun a b ha => rfl) (lv_sub hl [0, 1, 2] rfl) hH hS
          · skip
            have h_118 := s_nlt (rfl : z_62.toInt = _) (rfl : r_63.toInt = _) c_68
            refine lv_aload_n hx hb dX12_skip_85 rfl (lv_at hl 1 rfl) ?_
            refine h_getr (ci := 12) (C := RX12) (F := TX12) (N := 86) hx hb hts in12 hown hK hH (by decide) (rfl : kd 36 = 12) (by decide) rfl 84 (by decide) wd1 (fun _ h9 => h9) (by decide) rfl (t := 428) (hR 36 84 rfl) (by decide) dX12_skip_86 ?_
            refine lv_iload_n hx hb dX12_skip_89 rfl (lv_at hl 2 rfl) ?_
            refine lv_bipush (v := 100) hx hb dX12_skip_90 (by decide) ?_
            have hO_119 := okp hO_j1 (n := 428) (k := (x.toInt).toNat) (v := 100) (show (0 : Int) ≤ (100 : Int32).toInt ∧ (100 : Int32).toInt ≤ 108 from ⟨by decide, by decide⟩)
            refine h_iast hx hb hK hH hS (by decide) (rfl : kd 428 = 13) (s_vin (N := 3) (rfl : x.toInt = _) (rfl : ln 428 = 3) (by omega) (by omega)) dX12_skip_92 (fun H locs hH hS => ?_)
            rw [s_cl (show x.toInt = x.toInt by omega)] at hH
            -- loop at 93
            have lp_120 : ∀ (fuel_lp_120 : Nat)  (j2 : Nat → Nat → Int32) (H : Heap) (locs : List Loc) (ls : Array Slot), (108 - (j2 428 x.toInt.toNat).toInt).toNat < fuel_lp_120 → mwrF i (i 427 x.toInt.toNat).toInt.toNat (j2 428 x.toInt.toNat).toInt = mwrF i (i 427 x.toInt.toNat).toInt.toNat (i 428 x.toInt.toNat).toInt → nxO i j2 x.toInt.toNat → skB i (i 427 x.toInt.toNat).toInt.toNat (j2 428 x.toInt.toNat).toInt → OkI j2 → (∀ a b, ¬ ((a = 36 ∧ (b = 65 ∨ b = 66)) ∨ a = 418 ∨ a = 419 ∨ a = 428) → j2 a b = (up2 j1 428 (x.toInt).toNat 100) a b) → lv_has ls 3 [(2, .int (i 427 (x.toInt).toNat)), (0, .ref (g 36)), (1, .int x)] → sj_H D A (hwc g ka j2 r L d) H → va_S A s.heap H locs → W p l e (headSpec wsX12_skip ({ frames := 6, cells := 0, slots := 0, locals := 136 })).room s m ([.ref (g 36), .int x] : List Value).toArray below meth c H locs 0 0 (MQ below (sj_Qv (S := (Nat → Nat → Int32)) D (fun u => OkI u ∧ (∀ a b, ¬ ((a = 36 ∧ (b = 65 ∨ b = 66)) ∨ a = 418 ∨ a = 419 ∨ a = 428) → u a b = i a b) ∧ (mwrF i (i 427 x.toInt.toNat).toInt.toNat (u 428 x.toInt.toNat).toInt = mwrF i (i 427 x.toInt.toNat).toInt.toNat (i 428 x.toInt.toNat).toInt) ∧ (nxO i u x.toInt.toNat) ∧ (skB i (i 427 x.toInt.toNat).toInt.toNat (u 428 x.toInt.toNat).toInt) ∧ (skC i (i 427 x.toInt.toNat).toInt.toNat (u 428 x.toInt.toNat).toInt)) (fun u => hwc g ka u r L d) (fun _ => []) A) ([.ref (g 36), .int x] : List Value).toArray s 0 0 A) (F0 m 93 ls []) := by
              intro fuel_lp_120
              induction fuel_lp_120 with
              | zero => intros; omega
              | succ fuel_lp_120 ih_lp_120 =>
                intro j2 H locs ls hm hi_lp_120_0 hi_lp_120_1 hi_lp_120_2 hO_j2 hfr_j2 hl hH hS
                refine lv_aload_n hx hb dX12_skip_93 rfl (lv_at hl 1 rfl) ?_
                refine h_getr (ci := 12) (C := RX12) (F := TX12) (N := 86) hx hb hts in12 hown hK hH (by decide) (rfl : kd 36 = 12) (by decide) rfl 84 (by decide) wd1 (fun _ h9 => h9) (by decide) rfl (t := 428) (hR 36 84 rfl) (by decide) dX12_skip_94 ?_
                refine lv_iload_n hx hb dX12_skip_97 rfl (lv_at hl 2 rfl) ?_
                have bx_121 : (0 : Int) ≤ (j2 428 (x.toInt).toNat).toInt ∧ (j2 428 (x.toInt).toNat).toInt ≤ 108 := hO_j2 428 (x.toInt).toNat
                refine h_iald hx hb hK hH (by decide) (rfl : kd 428 = 13) (s_vin (N := 3) (rfl : x.toInt = _) (rfl : ln 428 = 3) (by omega) (by omega)) dX12_skip_98 ?_
                have ek_122 : x.toNatClampNeg = (x.toInt).toNat := (s_cl (show x.toInt = x.toInt by omega))
                refine sj_i (y := (j2 428 (x.toInt).toNat)) (by rw [ek_122]) ?_
                refine lv_bipush (v := 100) hx hb dX12_skip_99 (by decide) ?_
                refine lv_icmp_lt (tgt := 146) hx hb dX12_skip_101 (by decide) (fun c_123 => ?_) (fun c_123 => ?_)
                · skip
                  have h_124 := s_lt (rfl : (j2 428 (x.toInt).toNat).toInt = _) (show (100 : Int32).toInt = 100 from rfl) c_123
                  have hnx_125 : (j2 428 x.toInt.toNat).toInt = ((j2 428 (x.toInt).toNat) : Int32).toInt := congrArg Int32.toInt (rfl)
                  have hnx_125l : (100 : Int32).toInt = 100 := rfl
                  have hV_126 : mwrF i (i 427 x.toInt.toNat).toInt.toNat (j2 428 x.toInt.toNat).toInt = mwrF i (i 427 x.toInt.toNat).toInt.toNat (i 428 x.toInt.toNat).toInt := (by rw [show (j2 428 x.toInt.toNat).toInt = (j2 428 x.toInt.toNat).toInt by omega]; exact hi_lp_120_0)
                  have hV_127 : nxO i j2 x.toInt.toNat := (fun k hk => (hi_lp_120_1 k hk))
                  have hV_128 : skB i (i 427 x.toInt.toNat).toInt.toNat (j2 428 x.toInt.toNat).toInt := (by rw [show (j2 428 x.toInt.toNat).toInt = (j2 428 x.toInt.toNat).toInt by omega]; exact hi_lp_120_2)
                  have hV_129 : skC i (i 427 x.toInt.toNat).toInt.toNat (j2 428 x.toInt.toNat).toInt := (fun q1 q2 => by exfalso; omega)
                  exact sj_vret hx hb hr hlocks hS j2 ⟨hO_j2, (fun a b ha => ((hfr_j2 a b (by omega)).trans ((up2_o _ _ (by omega)).trans (hfr_j1 a b (by omega))))), hV_126, hV_127, hV_128, hV_129⟩ hH (sj_Knil hK) (Nat.le_of_ble_eq_true rfl) (Nat.le_of_ble_eq_true rfl) dX12_skip_146
                · skip
                  have h_130 := s_nlt (rfl : (j2 428 (x.toInt).toNat).toInt = _) (show (100 : Int32).toInt = 100 from rfl) c_123
                  refine lv_aload_n hx hb dX12_skip_104 rfl (lv_at hl 1 rfl) ?_
                  refine h_getr (ci := 12) (C := RX12) (F := TX12) (N := 86) hx hb hts in12 hown hK hH (by decide) (rfl : kd 36 = 12) (by decide) rfl 84 (by decide) wd1 (fun _ h9 => h9) (by decide) rfl (t := 428) (hR 36 84 rfl) (by decide) dX12_skip_105 ?_
                  refine lv_iload_n hx hb dX12_skip_108 rfl (lv_at hl 2 rfl) ?_
                  refine h_iald hx hb hK hH (by decide) (rfl : kd 428 = 13) (s_vin (N := 3) (rfl : x.toInt = _) (rfl : ln 428 = 3) (by omega) (by omega)) dX12_skip_109 ?_
                  have ek_131 : x.toNatClampNeg = (x.toInt).toNat := (s_cl (show x.toInt = x.toInt by omega))
                  refine sj_i (y := (j2 428 (x.toInt).toNat)) (by rw [ek_131]) ?_
                  refine lv_bipush (v := 108) hx hb dX12_skip_110 (by decide) ?_
                  refine lv_icmp_ge (tgt := 146) hx hb dX12_skip_112 (by decide) (fun c_132 => ?_) (fun c_132 => ?_)
                  · skip
                    have h_133 := s_le (show (108 : Int32).toInt = 108 from rfl) (rfl : (j2 428 (x.toInt).toNat).toInt = _) c_132
                    have hnx_134 : (j2 428 x.toInt.toNat).toInt = ((j2 428 (x.toInt).toNat) : Int32).toInt := congrArg Int32.toInt (rfl)
                    have hnx_134l : (100 : Int32).toInt = 100 := rfl
                    have hV_135 : mwrF i (i 427 x.toInt.toNat).toInt.toNat (j2 428 x.toInt.toNat).toInt = mwrF i (i 427 x.toInt.toNat).toInt.toNat (i 428 x.toInt.toNat).toInt := (by rw [show (j2 428 x.toInt.toNat).toInt = (j2 428 x.toInt.toNat).toInt by omega]; exact hi_lp_120_0)
                    have hV_136 : nxO i j2 x.toInt.toNat := (fun k hk => (hi_lp_120_1 k hk))
                    have hV_137 : skB i (i 427 x.toInt.toNat).toInt.toNat (j2 428 x.toInt.toNat).toInt := (by rw [show (j2 428 x.toInt.toNat).toInt = (j2 428 x.toInt.toNat).toInt by omega]; exact hi_lp_120_2)
                    have hV_138 : skC i (i 427 x.toInt.toNat).toInt.toNat (j2 428 x.toInt.toNat).toInt := (fun q1 q2 => by exfalso; omega)
                    exact sj_vret hx hb hr hlocks hS j2 ⟨hO_j2, (fun a b ha => ((hfr_j2 a b (by omega)).trans ((up2_o _ _ (by omega)).trans (hfr_j1 a b (by omega))))), hV_135, hV_136, hV_137, hV_138⟩ hH (sj_Knil hK) (Nat.le_of_ble_eq_true rfl) (Nat.le_of_ble_eq_true rfl) dX12_skip_146
                  · skip
                    have h_139 := s_nle (show (108 : Int32).toInt = 108 from rfl) (rfl : (j2 428 (x.toInt).toNat).toInt = _) c_132
                    refine lv_aload_n hx hb dX12_skip_115 rfl (lv_at hl 1 rfl) ?_
                    refine lv_bipush (v := 107) hx hb dX12_skip_116 (by decide) ?_
                    refine lv_aload_n hx hb dX12_skip_118 rfl (lv_at hl 1 rfl) ?_
                    refine h_getr (ci := 12) (C := RX12) (F := TX12) (N := 86) hx hb hts in12 hown hK hH (by decide) (rfl : kd 36 = 12) (by decide) rfl 84 (by decide) wd1 (fun _ h9 => h9) (by decide) rfl (t := 428) (hR 36 84 rfl) (by decide) dX12_skip_119 ?_
                    refine lv_iload_n hx hb dX12_skip_122 rfl (lv_at hl 2 rfl) ?_
                    refine h_iald hx hb hK hH (by decide) (rfl : kd 428 = 13) (s_vin (N := 3) (rfl : x.toInt = _) (rfl : ln 428 = 3) (by omega) (by omega)) dX12_skip_123 ?_
                    have ek_140 : x.toNatClampNeg = (x.toInt).toNat := (s_cl (show x.toInt = x.toInt by omega))
                    refine sj_i (y := (j2 428 (x.toInt).toNat)) (by rw [ek_140]) ?_
                    refine lv_isub hx hb dX12_skip_124 ?_
                    obtain ⟨z_141, ez_141, hz_141⟩ := s_sub (show (107 : Int32).toInt = 107 from rfl) (rfl : (j2 428 (x.toInt).toNat).toInt = _) (by omega) (by omega)
                    refine sj_i ez_141 ?_
                    refine lv_iconst (v := 0) hx hb dX12_skip_125 (by decide) ?_
                    refine lv_iload_n hx hb dX12_skip_126 rfl (lv_at hl 0 rfl) ?_
                    have hl_142 : (0 : Int32).toInt = 0 := rfl
                    refine x_calli (va_runV (As := [.int z_141, .int 0, .int (i 427 (x.toInt).toNat)]) (rest := []) ⟨hx, hb, hml, hown, hts⟩ (m_due l D g ka ad j2 r L d z_141 0 (i 427 (x.toInt).toNat) hO_j2 hR H.size (by first | omega | decide) (by first | omega | decide) (by first | omega | decide) (by first | omega | decide) (by first | omega | decide) (by first | omega | decide)) (cwV 3 hts gX12_skip_X12_due rfl rfl rfl (by decide +kernel) ⟨(Nat.le_of_ble_eq_true rfl), (Nat.le_of_ble_eq_true rfl)⟩) (x_preV (q := (RX12, TX12, 86)) hH hK (q_obj (by decide) (rfl : kd 36 = 12) (by decide)) rfl gxb (gxw hE hS (x_F hH hS hA))) rfl rfl hl.1 rfl (lv_room (Nat.le_of_ble_eq_true rfl)) dX12_skip_127 ⟨(Nat.le_of_ble_eq_true rfl), (Nat.le_of_ble_eq_true rfl)⟩) hH hS hA rfl rfl (fun r_143 im_145 H locs hw_144 hH hS => ?_)
                    have hH : sj_H D A (hwc g ka im_145 r L d) H := hH
                    obtain ⟨hO_147, hfr_146, hr_148, hx2_149⟩ := hw_144
                    have hr_148 : (0 : Int) ≤ r_143.toInt ∧ r_143.toInt ≤ 1 := hr_148
                    have hbo_150 := b01_c hx2_149
                    rw [mdue_fr (i := i) (u := j2) ((hfr_j2 36 67 (by omega)).trans ((up2_o _ _ (by omega)).trans (hfr_j1 36 67 (by omega)))) (funext fun b9 => ((hfr_j2 420 b9 (by omega)).trans ((up2_o _ _ (by omega)).trans (hfr_j1 420 b9 (by omega))))) (funext fun b9 => ((hfr_j2 416 b9 (by omega)).trans ((up2_o _ _ (by omega)).trans (hfr_j1 416 b9 (by omega))))) (funext fun b9 => ((hfr_j2 417 b9 (by omega)).trans ((up2_o _ _ (by omega)).trans (hfr_j1 417 b9 (by omega)))))] at hbo_150
                    refine lv_if_ne (tgt := 146) hx hb dX12_skip_130 (by decide) (fun c_151 => ?_) (fun c_151 => ?_)
                    · skip
                      have h_152 := s_ne (rfl : r_143.toInt = _) (show (0 : Int32).toInt = 0 from rfl) c_151
                      have hnx_153 : (im_145 428 x.toInt.toNat).toInt = ((j2 428 (x.toInt).toNat) : Int32).toInt := congrArg Int32.toInt ((hfr_146 428 (x.toInt).toNat (by omega)))
                      have hnx_153l : (100 : Int32).toInt = 100 := rfl
                      have hV_154 : mwrF i (i 427 x.toInt.toNat).toInt.toNat (im_145 428 x.toInt.toNat).toInt = mwrF i (i 427 x.toInt.toNat).toInt.toNat (i 428 x.toInt.toNat).toInt := (by rw [show (im_145 428 x.toInt.toNat).toInt = (j2 428 x.toInt.toNat).toInt by omega]; exact hi_lp_120_0)
                      have hV_155 : nxO i im_145 x.toInt.toNat := (fun k hk => ((hfr_146 428 k (by omega)).trans (hi_lp_120_1 k hk)))
                      have hV_156 : skB i (i 427 x.toInt.toNat).toInt.toNat (im_145 428 x.toInt.toNat).toInt := (by rw [show (im_145 428 x.toInt.toNat).toInt = (j2 428 x.toInt.toNat).toInt by omega]; exact hi_lp_120_2)
                      have hV_157 : skC i (i 427 x.toInt.toNat).toInt.toNat (im_145 428 x.toInt.toNat).toInt := (fun q1 q2 => (by have h9 := (hbo_150.resolve_right (fun q => by have := q.1; omega)).2; unfold mdP; rw [show (107 - (im_145 428 x.toInt.toNat).toInt).toNat = z_141.toInt.toNat by omega]; exact (congrArg (fun q => mdue i 0 q _) (show i 400 (i 427 x.toInt.toNat).toInt.toNat = j2 400 (i 427 (x.toInt).toNat).toInt.toNat from (congrArg (i 400) (by omega)).trans (((hfr_j2 400 _ (by omega)).trans ((up2_o _ _ (by omega)).trans (hfr_j1 400 _ (by omega))))).symm)).trans h9))
                      exact sj_vret hx hb hr hlocks hS im_145 ⟨hO_147, (fun a b ha => ((hfr_146 a b (by omega)).trans ((hfr_j2 a b (by omega)).trans ((up2_o _ _ (by omega)).trans (hfr_j1 a b (by omega)))))), hV_154, hV_155, hV_156, hV_157⟩ hH (sj_Knil hK) (Nat.le_of_ble_eq_true rfl) (Nat.le_of_ble_eq_true rfl) dX12_skip_146
                    · skip
                      have h_158 := s_eq (rfl : r_143.toInt = _) (show (0 : Int32).toInt = 0 from rfl) c_151
                      refine lv_aload_n hx hb dX12_skip_133 rfl (lv_at hl 1 rfl) ?_
                      refine h_getr (ci := 12) (C := RX12) (F := TX12) (N := 86) hx hb hts in12 hown hK hH (by decide) (rfl : kd 36 = 12) (by decide) rfl 84 (by decide) wd1 (fun _ h9 => h9) (by decide) rfl (t := 428) (hR 36 84 rfl) (by decide) dX12_skip_134 ?_
                      refine lv_iload_n hx hb dX12_skip_137 rfl (lv_at hl 2 rfl) ?_
                      refine lv_dup2_11 hx hb dX12_skip_138 rfl rfl ?_
                      refine h_iald hx hb hK hH (by decide) (rfl : kd 428 = 13) (s_vin (N := 3) (rfl : x.toInt = _) (rfl : ln 428 = 3) (by omega) (by omega)) dX12_skip_139 ?_
                      have ek_159 : x.toNatClampNeg = (x.toInt).toNat := (s_cl (show x.toInt = x.toInt by omega))
                      refine sj_i (y := (j2 428 (x.toInt).toNat)) (by rw [ek_159]; exact (hfr_146 428 (x.toInt).toNat (by omega))) ?_
                      refine lv_iconst (v := 1) hx hb dX12_skip_140 (by decide) ?_
                      refine lv_iadd hx hb dX12_skip_141 ?_
                      obtain ⟨z_160, ez_160, hz_160⟩ := s_add (rfl : (j2 428 (x.toInt).toNat).toInt = _) (show (1 : Int32).toInt = 1 from rfl) (by omega) (by omega)
                      refine sj_i ez_160 ?_
                      have hO_161 := okp hO_147 (n := 428) (k := (x.toInt).toNat) (v := z_160) (show (0 : Int) ≤ (z_160 : Int32).toInt ∧ (z_160 : Int32).toInt ≤ 108 from ⟨by omega, by omega⟩)
                      refine h_iast hx hb hK hH hS (by decide) (rfl : kd 428 = 13) (s_vin (N := 3) (rfl : x.toInt = _) (rfl : ln 428 = 3) (by omega) (by omega)) dX12_skip_142 (fun H locs hH hS => ?_)
                      rw [s_cl (show x.toInt = x.toInt by omega)] at hH
                      refine lv_goto (tgt := 93) hx hb dX12_skip_143 (by decide) ?_
                      have hnx_162 : ((up2 im_145 428 (x.toInt).toNat z_160) 428 x.toInt.toNat).toInt = (z_160 : Int32).toInt := congrArg Int32.toInt ((up2_at _ _ _ _))
                      have hnx_162l : (100 : Int32).toInt = 100 := rfl
                      have hnx_163 : ((up2 im_145 428 (x.toInt).toNat z_160) 428 x.toInt.toNat).toInt = (z_160 : Int32).toInt := congrArg Int32.toInt ((up2_at _ _ _ _))
                      have hnx_163l : (100 : Int32).toInt = 100 := rfl
                      have hnx_164 : ((up2 im_145 428 (x.toInt).toNat z_160) 428 x.toInt.toNat).toInt = (z_160 : Int32).toInt := congrArg Int32.toInt ((up2_at _ _ _ _))
                      have hnx_164l : (100 : Int32).toInt = 100 := rfl
                      exact ih_lp_120  _ _ _ ls (by omega) ((mwr_a (by omega) (by omega) (by omega) (by have h9 := (hbo_150.resolve_left (fun q => by have := q.1; omega)).2; unfold mdP; rw [show (107 - (j2 428 x.toInt.toNat).toInt).toNat = z_141.toInt.toNat by omega]; exact (congrArg (fun q => mdue i 0 q _) (show i 400 (i 427 x.toInt.toNat).toInt.toNat = j2 400 (i 427 (x.toInt).toNat).toInt.toNat from (congrArg (i 400) (by omega)).trans (((hfr_j2 400 _ (by omega)).trans ((up2_o _ _ (by omega)).trans (hfr_j1 400 _ (by omega))))).symm)).trans h9)).trans hi_lp_120_0) (fun k hk => ((up2_k _ _ (by omega)).trans ((hfr_146 428 k (by omega)).trans (hi_lp_120_1 k hk)))) ⟨fun q => by exfalso; omega, fun q1 q2 => by exfalso; omega⟩ hO_161 (fun a b ha => ((up2_o _ _ (by omega)).trans ((hfr_146 a b (by omega)).trans (hfr_j2 a b (by omega))))) (lv_sub hl [0, 1, 2] rfl) hH hS
            have hnx_165 : ((up2 j1 428 (x.toInt).toNat 100) 428 x.toInt.toNat).toInt = (100 : Int32).toInt := congrArg Int32.toInt ((up2_at _ _ _ _))
            have hnx_165l : (100 : Int32).toInt = 100 := rfl
            have hnx_166 : ((up2 j1 428 (x.toInt).toNat 100) 428 x.toInt.toNat).toInt = (100 : Int32).toInt := congrArg Int32.toInt ((up2_at _ _ _ _))
            have hnx_166l : (100 : Int32).toInt = 100 := rfl
            have hnx_167 : ((up2 j1 428 (x.toInt).toNat 100) 428 x.toInt.toNat).toInt = (100 : Int32).toInt := congrArg Int32.toInt ((up2_at _ _ _ _))
            have hnx_167l : (100 : Int32).toInt = 100 := rfl
            exact lp_120 _  _ _ _ ls (Nat.lt_succ_self _) ((mwr_m (n := (j1 428 x.toInt.toNat).toInt) (by omega) (by omega) (by omega) (by omega)).trans hi_lp_3_0) (fun k hk => ((up2_k _ _ (by omega)).trans (hi_lp_3_1 k hk))) ⟨fun q => by exfalso; omega, fun q1 q2 => by exfalso; omega⟩ hO_119 (fun a b ha => rfl) (lv_sub hl [0, 1, 2] rfl) hH hS
      · skip
        have h_168 := s_nle (show (8 : Int32).toInt = 8 from rfl) (rfl : (j1 428 (x.toInt).toNat).toInt = _) c_6
        refine lv_aload_n hx hb dX12_skip_18 rfl (lv_at hl 1 rfl) ?_
        refine lv_aload_n hx hb dX12_skip_19 rfl (lv_at hl 1 rfl) ?_
        refine h_getr (ci := 12) (C := RX12) (F := TX12) (N := 86) hx hb hts in12 hown hK hH (by decide) (rfl : kd 36 = 12) (by decide) rfl 84 (by decide) wd1 (fun _ h9 => h9) (by decide) rfl (t := 428) (hR 36 84 rfl) (by decide) dX12_skip_20 ?_
        refine lv_iload_n hx hb dX12_skip_23 rfl (lv_at hl 2 rfl) ?_
        refine h_iald hx hb hK hH (by decide) (rfl : kd 428 = 13) (s_vin (N := 3) (rfl : x.toInt = _) (rfl : ln 428 = 3) (by omega) (by omega)) dX12_skip_24 ?_
        have ek_169 : x.toNatClampNeg = (x.toInt).toNat := (s_cl (show x.toInt = x.toInt by omega))
        refine sj_i (y := (j1 428 (x.toInt).toNat)) (by rw [ek_169]) ?_
        refine lv_iconst (v := 1) hx hb dX12_skip_25 (by decide) ?_
        refine lv_iload_n hx hb dX12_skip_26 rfl (lv_at hl 0 rfl) ?_
        have hl_170 : (1 : Int32).toInt = 1 := rfl
        refine x_calli (va_runV (As := [.int (j1 428 (x.toInt).toNat), .int 1, .int (i 427 (x.toInt).toNat)]) (rest := []) ⟨hx, hb, hml, hown, hts⟩ (m_due l D g ka ad j1 r L d (j1 428 (x.toInt).toNat) 1 (i 427 (x.toInt).toNat) hO_j1 hR H.size (by first | omega | decide) (by first | omega | decide) (by first | omega | decide) (by first | omega | decide) (by first | omega | decide) (by first | omega | decide)) (cwV 3 hts gX12_skip_X12_due rfl rfl rfl (by decide +kernel) ⟨(Nat.le_of_ble_eq_true rfl), (Nat.le_of_ble_eq_true rfl)⟩) (x_preV (q := (RX12, TX12, 86)) hH hK (q_obj (by decide) (rfl : kd 36 = 12) (by decide)) rfl gxb (gxw hE hS (x_F hH hS hA))) rfl rfl hl.1 rfl (lv_room (Nat.le_of_ble_eq_true rfl)) dX12_skip_27 ⟨(Nat.le_of_ble_eq_true rfl), (Nat.le_of_ble_eq_true rfl)⟩) hH hS hA rfl rfl (fun r_171 im_173 H locs hw_172 hH hS => ?_)
        have hH : sj_H D A (hwc g ka im_173 r L d) H := hH
        obtain ⟨hO_175, hfr_174, hr_176, hx2_177⟩ := hw_172
        have hr_176 : (0 : Int) ≤ r_171.toInt ∧ r_171.toInt ≤ 1 := hr_176
        have hbo_178 := b01_c hx2_177
        rw [mdue_fr (i := i) (u := j1) (hfr_j1 36 67 (by omega)) (funext fun b9 => (hfr_j1 420 b9 (by omega))) (funext fun b9 => (hfr_j1 416 b9 (by omega))) (funext fun b9 => (hfr_j1 417 b9 (by omega)))] at hbo_178
        refine lv_if_ne (tgt := 46) hx hb dX12_skip_30 (by decide) (fun c_179 => ?_) (fun c_179 => ?_)
        · skip
          have h_180 := s_ne (rfl : r_171.toInt = _) (show (0 : Int32).toInt = 0 from rfl) c_179
          refine lv_aload_n hx hb dX12_skip_46 rfl (lv_at hl 1 rfl) ?_
          refine h_getr (ci := 12) (C := RX12) (F := TX12) (N := 86) hx hb hts in12 hown hK hH (by decide) (rfl : kd 36 = 12) (by decide) rfl 84 (by decide) wd1 (fun _ h9 => h9) (by decide) rfl (t := 428) (hR 36 84 rfl) (by decide) dX12_skip_47 ?_
          refine lv_iload_n hx hb dX12_skip_50 rfl (lv_at hl 2 rfl) ?_
          refine h_iald hx hb hK hH (by decide) (rfl : kd 428 = 13) (s_vin (N := 3) (rfl : x.toInt = _) (rfl : ln 428 = 3) (by omega) (by omega)) dX12_skip_51 ?_
          have ek_181 : x.toNatClampNeg = (x.toInt).toNat := (s_cl (show x.toInt = x.toInt by omega))
          refine sj_i (y := (j1 428 (x.toInt).toNat)) (by rw [ek_181]; exact (hfr_174 428 (x.toInt).toNat (by omega))) ?_
          refine lv_bipush (v := 8) hx hb dX12_skip_52 (by decide) ?_
          refine lv_icmp_lt (tgt := 93) hx hb dX12_skip_54 (by decide) (fun _ => ?_) (fun h => absurd (p_lt (rfl : (j1 428 (x.toInt).toNat).toInt = _) (show (8 : Int32).toInt = 8 from rfl) (by omega)) h)
          -- loop at 93
          have lp_182 : ∀ (fuel_lp_182 : Nat)  (j2 : Nat → Nat → Int32) (H : Heap) (locs : List Loc) (ls : Array Slot), (108 - (j2 428 x.toInt.toNat).toInt).toNat < fuel_lp_182 → mwrF i (i 427 x.toInt.toNat).toInt.toNat (j2 428 x.toInt.toNat).toInt = mwrF i (i 427 x.toInt.toNat).toInt.toNat (i 428 x.toInt.toNat).toInt → nxO i j2 x.toInt.toNat → skB i (i 427 x.toInt.toNat).toInt.toNat (j2 428 x.toInt.toNat).toInt → OkI j2 → (∀ a b, ¬ ((a = 36 ∧ (b = 65 ∨ b = 66)) ∨ a = 418 ∨ a = 419 ∨ a = 428) → j2 a b = im_173 a b) → lv_has ls 3 [(2, .int (i 427 (x.toInt).toNat)), (0, .ref (g 36)), (1, .int x)] → sj_H D A (hwc g ka j2 r L d) H → va_S A s.heap H locs → W p l e (headSpec wsX12_skip ({ frames := 6, cells := 0, slots := 0, locals := 136 })).room s m ([.ref (g 36), .int x] : List Value).toArray below meth c H locs 0 0 (MQ below (sj_Qv (S := (Nat → Nat → Int32)) D (fun u => OkI u ∧ (∀ a b, ¬ ((a = 36 ∧ (b = 65 ∨ b = 66)) ∨ a = 418 ∨ a = 419 ∨ a = 428) → u a b = i a b) ∧ (mwrF i (i 427 x.toInt.toNat).toInt.toNat (u 428 x.toInt.toNat).toInt = mwrF i (i 427 x.toInt.toNat).toInt.toNat (i 428 x.toInt.toNat).toInt) ∧ (nxO i u x.toInt.toNat) ∧ (skB i (i 427 x.toInt.toNat).toInt.toNat (u 428 x.toInt.toNat).toInt) ∧ (skC i (i 427 x.toInt.toNat).toInt.toNat (u 428 x.toInt.toNat).toInt)) (fun u => hwc g ka u r L d) (fun _ => []) A) ([.ref (g 36), .int x] : List Value).toArray s 0 0 A) (F0 m 93 ls []) := by
            intro fuel_lp_182
            induction fuel_lp_182 with
            | zero => intros; omega
            | succ fuel_lp_182 ih_lp_182 =>
              intro j2 H locs ls hm hi_lp_182_0 hi_lp_182_1 hi_lp_182_2 hO_j2 hfr_j2 hl hH hS
              refine lv_aload_n hx hb dX12_skip_93 rfl (lv_at hl 1 rfl) ?_
              refine h_getr (ci := 12) (C := RX12) (F := TX12) (N := 86) hx hb hts in12 hown hK hH (by decide) (rfl : kd 36 = 12) (by decide) rfl 84 (by decide) wd1 (fun _ h9 => h9) (by decide) rfl (t := 428) (hR 36 84 rfl) (by decide) dX12_skip_94 ?_
              refine lv_iload_n hx hb dX12_skip_97 rfl (lv_at hl 2 rfl) ?_
              have bx_183 : (0 : Int) ≤ (j2 428 (x.toInt).toNat).toInt ∧ (j2 428 (x.toInt).toNat).toInt ≤ 108 := hO_j2 428 (x.toInt).toNat
              refine h_iald hx hb hK hH (by decide) (rfl : kd 428 = 13) (s_vin (N := 3) (rfl : x.toInt = _) (rfl : ln 428 = 3) (by omega) (by omega)) dX12_skip_98 ?_
              have ek_184 : x.toNatClampNeg = (x.toInt).toNat := (s_cl (show x.toInt = x.toInt by omega))
              refine sj_i (y := (j2 428 (x.toInt).toNat)) (by rw [ek_184]) ?_
              refine lv_bipush (v := 100) hx hb dX12_skip_99 (by decide) ?_
              refine lv_icmp_lt (tgt := 146) hx hb dX12_skip_101 (by decide) (fun c_185 => ?_) (fun c_185 => ?_)
              · skip
                have h_186 := s_lt (rfl : (j2 428 (x.toInt).toNat).toInt = _) (show (100 : Int32).toInt = 100 from rfl) c_185
                have hnx_187 : (j2 428 x.toInt.toNat).toInt = ((j2 428 (x.toInt).toNat) : Int32).toInt := congrArg Int32.toInt (rfl)
                have hnx_187l : (100 : Int32).toInt = 100 := rfl
                have hV_188 : mwrF i (i 427 x.toInt.toNat).toInt.toNat (j2 428 x.toInt.toNat).toInt = mwrF i (i 427 x.toInt.toNat).toInt.toNat (i 428 x.toInt.toNat).toInt := (by rw [show (j2 428 x.toInt.toNat).toInt = (j2 428 x.toInt.toNat).toInt by omega]; exact hi_lp_182_0)
                have hV_189 : nxO i j2 x.toInt.toNat := (fun k hk => (hi_lp_182_1 k hk))
                have hV_190 : skB i (i 427 x.toInt.toNat).toInt.toNat (j2 428 x.toInt.toNat).toInt := (by rw [show (j2 428 x.toInt.toNat).toInt = (j2 428 x.toInt.toNat).toInt by omega]; exact hi_lp_182_2)
                have hV_191 : skC i (i 427 x.toInt.toNat).toInt.toNat (j2 428 x.toInt.toNat).toInt := (fun q1 q2 => by exfalso; omega)
                exact sj_vret hx hb hr hlocks hS j2 ⟨hO_j2, (fun a b ha => ((hfr_j2 a b (by omega)).trans ((hfr_174 a b (by omega)).trans (hfr_j1 a b (by omega))))), hV_188, hV_189, hV_190, hV_191⟩ hH (sj_Knil hK) (Nat.le_of_ble_eq_true rfl) (Nat.le_of_ble_eq_true rfl) dX12_skip_146
              · skip
                have h_192 := s_nlt (rfl : (j2 428 (x.toInt).toNat).toInt = _) (show (100 : Int32).toInt = 100 from rfl) c_185
                refine lv_aload_n hx hb dX12_skip_104 rfl (lv_at hl 1 rfl) ?_
                refine h_getr (ci := 12) (C := RX12) (F := TX12) (N := 86) hx hb hts in12 hown hK hH (by decide) (rfl : kd 36 = 12) (by decide) rfl 84 (by decide) wd1 (fun _ h9 => h9) (by decide) rfl (t := 428) (hR 36 84 rfl) (by decide) dX12_skip_105 ?_
                refine lv_iload_n hx hb dX12_skip_108 rfl (lv_at hl 2 rfl) ?_
                refine h_iald hx hb hK hH (by decide) (rfl : kd 428 = 13) (s_vin (N := 3) (rfl : x.toInt = _) (rfl : ln 428 = 3) (by omega) (by omega)) dX12_skip_109 ?_
                have ek_193 : x.toNatClampNeg = (x.toInt).toNat := (s_cl (show x.toInt = x.toInt by omega))
                refine sj_i (y := (j2 428 (x.toInt).toNat)) (by rw [ek_193]) ?_
                refine lv_bipush (v := 108) hx hb dX12_skip_110 (by decide) ?_
                refine lv_icmp_ge (tgt := 146) hx hb dX12_skip_112 (by decide) (fun c_194 => ?_) (fun c_194 => ?_)
                · skip
                  have h_195 := s_le (show (108 : Int32).toInt = 108 from rfl) (rfl : (j2 428 (x.toInt).toNat).toInt = _) c_194
                  have hnx_196 : (j2 428 x.toInt.toNat).toInt = ((j2 428 (x.toInt).toNat) : Int32).toInt := congrArg Int32.toInt (rfl)
                  have hnx_196l : (100 : Int32).toInt = 100 := rfl
                  have hV_197 : mwrF i (i 427 x.toInt.toNat).toInt.toNat (j2 428 x.toInt.toNat).toInt = mwrF i (i 427 x.toInt.toNat).toInt.toNat (i 428 x.toInt.toNat).toInt := (by rw [show (j2 428 x.toInt.toNat).toInt = (j2 428 x.toInt.toNat).toInt by omega]; exact hi_lp_182_0)
                  have hV_198 : nxO i j2 x.toInt.toNat := (fun k hk => (hi_lp_182_1 k hk))
                  have hV_199 : skB i (i 427 x.toInt.toNat).toInt.toNat (j2 428 x.toInt.toNat).toInt := (by rw [show (j2 428 x.toInt.toNat).toInt = (j2 428 x.toInt.toNat).toInt by omega]; exact hi_lp_182_2)
                  have hV_200 : skC i (i 427 x.toInt.toNat).toInt.toNat (j2 428 x.toInt.toNat).toInt := (fun q1 q2 => by exfalso; omega)
                  exact sj_vret hx hb hr hlocks hS j2 ⟨hO_j2, (fun a b ha => ((hfr_j2 a b (by omega)).trans ((hfr_174 a b (by omega)).trans (hfr_j1 a b (by omega))))), hV_197, hV_198, hV_199, hV_200⟩ hH (sj_Knil hK) (Nat.le_of_ble_eq_true rfl) (Nat.le_of_ble_eq_true rfl) dX12_skip_146
                · skip
                  have h_201 := s_nle (show (108 : Int32).toInt = 108 from rfl) (rfl : (j2 428 (x.toInt).toNat).toInt = _) c_194
                  refine lv_aload_n hx hb dX12_skip_115 rfl (lv_at hl 1 rfl) ?_
                  refine lv_bipush (v := 107) hx hb dX12_skip_116 (by decide) ?_
                  refine lv_aload_n hx hb dX12_skip_118 rfl (lv_at hl 1 rfl) ?_
                  refine h_getr (ci := 12) (C := RX12) (F := TX12) (N := 86) hx hb hts in12 hown hK hH (by decide) (rfl : kd 36 = 12) (by decide) rfl 84 (by decide) wd1 (fun _ h9 => h9) (by decide) rfl (t := 428) (hR 36 84 rfl) (by decide) dX12_skip_119 ?_
                  refine lv_iload_n hx hb dX12_skip_122 rfl (lv_at hl 2 rfl) ?_
                  refine h_iald hx hb hK hH (by decide) (rfl : kd 428 = 13) (s_vin (N := 3) (rfl : x.toInt = _) (rfl : ln 428 = 3) (by omega) (by omega)) dX12_skip_123 ?_
                  have ek_202 : x.toNatClampNeg = (x.toInt).toNat := (s_cl (show x.toInt = x.toInt by omega))
                  refine sj_i (y := (j2 428 (x.toInt).toNat)) (by rw [ek_202]) ?_
                  refine lv_isub hx hb dX12_skip_124 ?_
                  obtain ⟨z_203, ez_203, hz_203⟩ := s_sub (show (107 : Int32).toInt = 107 from rfl) (rfl : (j2 428 (x.toInt).toNat).toInt = _) (by omega) (by omega)
                  refine sj_i ez_203 ?_
                  refine lv_iconst (v := 0) hx hb dX12_skip_125 (by decide) ?_
                  refine lv_iload_n hx hb dX12_skip_126 rfl (lv_at hl 0 rfl) ?_
                  have hl_204 : (0 : Int32).toInt = 0 := rfl
                  refine x_calli (va_runV (As := [.int z_203, .int 0, .int (i 427 (x.toInt).toNat)]) (rest := []) ⟨hx, hb, hml, hown, hts⟩ (m_due l D g ka ad j2 r L d z_203 0 (i 427 (x.toInt).toNat) hO_j2 hR H.size (by first | omega | decide) (by first | omega | decide) (by first | omega | decide) (by first | omega | decide) (by first | omega | decide) (by first | omega | decide)) (cwV 3 hts gX12_skip_X12_due rfl rfl rfl (by decide +kernel) ⟨(Nat.le_of_ble_eq_true rfl), (Nat.le_of_ble_eq_true rfl)⟩) (x_preV (q := (RX12, TX12, 86)) hH hK (q_obj (by decide) (rfl : kd 36 = 12) (by decide)) rfl gxb (gxw hE hS (x_F hH hS hA))) rfl rfl hl.1 rfl (lv_room (Nat.le_of_ble_eq_true rfl)) dX12_skip_127 ⟨(Nat.le_of_ble_eq_true rfl), (Nat.le_of_ble_eq_true rfl)⟩) hH hS hA rfl rfl (fun r_205 im_207 H locs hw_206 hH hS => ?_)
                  have hH : sj_H D A (hwc g ka im_207 r L d) H := hH
                  obtain ⟨hO_209, hfr_208, hr_210, hx2_211⟩ := hw_206
                  have hr_210 : (0 : Int) ≤ r_205.toInt ∧ r_205.toInt ≤ 1 := hr_210
                  have hbo_212 := b01_c hx2_211
                  rw [mdue_fr (i := i) (u := j2) ((hfr_j2 36 67 (by omega)).trans ((hfr_174 36 67 (by omega)).trans (hfr_j1 36 67 (by omega)))) (funext fun b9 => ((hfr_j2 420 b9 (by omega)).trans ((hfr_174 420 b9 (by omega)).trans (hfr_j1 420 b9 (by omega))))) (funext fun b9 => ((hfr_j2 416 b9 (by omega)).trans ((hfr_174 416 b9 (by omega)).trans (hfr_j1 416 b9 (by omega))))) (funext fun b9 => ((hfr_j2 417 b9 (by omega)).trans ((hfr_174 417 b9 (by omega)).trans (hfr_j1 417 b9 (by omega)))))] at hbo_212
                  refine lv_if_ne (tgt := 146) hx hb dX12_skip_130 (by decide) (fun c_213 => ?_) (fun c_213 => ?_)
                  · skip
                    have h_214 := s_ne (rfl : r_205.toInt = _) (show (0 : Int32).toInt = 0 from rfl) c_213
                    have hnx_215 : (im_207 428 x.toInt.toNat).toInt = ((j2 428 (x.toInt).toNat) : Int32).toInt := congrArg Int32.toInt ((hfr_208 428 (x.toInt).toNat (by omega)))
                    have hnx_215l : (100 : Int32).toInt = 100 := rfl
                    have hV_216 : mwrF i (i 427 x.toInt.toNat).toInt.toNat (im_207 428 x.toInt.toNat).toInt = mwrF i (i 427 x.toInt.toNat).toInt.toNat (i 428 x.toInt.toNat).toInt := (by rw [show (im_207 428 x.toInt.toNat).toInt = (j2 428 x.toInt.toNat).toInt by omega]; exact hi_lp_182_0)
                    have hV_217 : nxO i im_207 x.toInt.toNat := (fun k hk => ((hfr_208 428 k (by omega)).trans (hi_lp_182_1 k hk)))
                    have hV_218 : skB i (i 427 x.toInt.toNat).toInt.toNat (im_207 428 x.toInt.toNat).toInt := (by rw [show (im_207 428 x.toInt.toNat).toInt = (j2 428 x.toInt.toNat).toInt by omega]; exact hi_lp_182_2)
                    have hV_219 : skC i (i 427 x.toInt.toNat).toInt.toNat (im_207 428 x.toInt.toNat).toInt := (fun q1 q2 => (by have h9 := (hbo_212.resolve_right (fun q => by have := q.1; omega)).2; unfold mdP; rw [show (107 - (im_207 428 x.toInt.toNat).toInt).toNat = z_203.toInt.toNat by omega]; exact (congrArg (fun q => mdue i 0 q _) (show i 400 (i 427 x.toInt.toNat).toInt.toNat = j2 400 (i 427 (x.toInt).toNat).toInt.toNat from (congrArg (i 400) (by omega)).trans (((hfr_j2 400 _ (by omega)).trans ((hfr_174 400 _ (by omega)).trans (hfr_j1 400 _ (by omega))))).symm)).trans h9))
                    exact sj_vret hx hb hr hlocks hS im_207 ⟨hO_209, (fun a b ha => ((hfr_208 a b (by omega)).trans ((hfr_j2 a b (by omega)).trans ((hfr_174 a b (by omega)).trans (hfr_j1 a b (by omega)))))), hV_216, hV_217, hV_218, hV_219⟩ hH (sj_Knil hK) (Nat.le_of_ble_eq_true rfl) (Nat.le_of_ble_eq_true rfl) dX12_skip_146
                  · skip
                    have h_220 := s_eq (rfl : r_205.toInt = _) (show (0 : Int32).toInt = 0 from rfl) c_213
                    refine lv_aload_n hx hb dX12_skip_133 rfl (lv_at hl 1 rfl) ?_
                    refine h_getr (ci := 12) (C := RX12) (F := TX12) (N := 86) hx hb hts in12 hown hK hH (by decide) (rfl : kd 36 = 12) (by decide) rfl 84 (by decide) wd1 (fun _ h9 => h9) (by decide) rfl (t := 428) (hR 36 84 rfl) (by decide) dX12_skip_134 ?_
                    refine lv_iload_n hx hb dX12_skip_137 rfl (lv_at hl 2 rfl) ?_
                    refine lv_dup2_11 hx hb dX12_skip_138 rfl rfl ?_
                    refine h_iald hx hb hK hH (by decide) (rfl : kd 428 = 13) (s_vin (N := 3) (rfl : x.toInt = _) (rfl : ln 428 = 3) (by omega) (by omega)) dX12_skip_139 ?_
                    have ek_221 : x.toNatClampNeg = (x.toInt).toNat := (s_cl (show x.toInt = x.toInt by omega))
                    refine sj_i (y := (j2 428 (x.toInt).toNat)) (by rw [ek_221]; exact (hfr_208 428 (x.toInt).toNat (by omega))) ?_
                    refine lv_iconst (v := 1) hx hb dX12_skip_140 (by decide) ?_
                    refine lv_iadd hx hb dX12_skip_141 ?_
                    obtain ⟨z_222, ez_222, hz_222⟩ := s_add (rfl : (j2 428 (x.toInt).toNat).toInt = _) (show (1 : Int32).toInt = 1 from rfl) (by omega) (by omega)
                    refine sj_i ez_222 ?_
                    have hO_223 := okp hO_209 (n := 428) (k := (x.toInt).toNat) (v := z_222) (show (0 : Int) ≤ (z_222 : Int32).toInt ∧ (z_222 : Int32).toInt ≤ 108 from ⟨by omega, by omega⟩)
                    refine h_iast hx hb hK hH hS (by decide) (rfl : kd 428 = 13) (s_vin (N := 3) (rfl : x.toInt = _) (rfl : ln 428 = 3) (by omega) (by omega)) dX12_skip_142 (fun H locs hH hS => ?_)
                    rw [s_cl (show x.toInt = x.toInt by omega)] at hH
                    refine lv_goto (tgt := 93) hx hb dX12_skip_143 (by decide) ?_
                    have hnx_224 : ((up2 im_207 428 (x.toInt).toNat z_222) 428 x.toInt.toNat).toInt = (z_222 : Int32).toInt := congrArg Int32.toInt ((up2_at _ _ _ _))
                    have hnx_224l : (100 : Int32).toInt = 100 := rfl
                    have hnx_225 : ((up2 im_207 428 (x.toInt).toNat z_222) 428 x.toInt.toNat).toInt = (z_222 : Int32).toInt := congrArg Int32.toInt ((up2_at _ _ _ _))
                    have hnx_225l : (100 : Int32).toInt = 100 := rfl
                    have hnx_226 : ((up2 im_207 428 (x.toInt).toNat z_222) 428 x.toInt.toNat).toInt = (z_222 : Int32).toInt := congrArg Int32.toInt ((up2_at _ _ _ _))
                    have hnx_226l : (100 : Int32).toInt = 100 := rfl
                    exact ih_lp_182  _ _ _ ls (by omega) ((mwr_a (by omega) (by omega) (by omega) (by have h9 := (hbo_212.resolve_left (fun q => by have := q.1; omega)).2; unfold mdP; rw [show (107 - (j2 428 x.toInt.toNat).toInt).toNat = z_203.toInt.toNat by omega]; exact (congrArg (fun q => mdue i 0 q _) (show i 400 (i 427 x.toInt.toNat).toInt.toNat = j2 400 (i 427 (x.toInt).toNat).toInt.toNat from (congrArg (i 400) (by omega)).trans (((hfr_j2 400 _ (by omega)).trans ((hfr_174 400 _ (by omega)).trans (hfr_j1 400 _ (by omega))))).symm)).trans h9)).trans hi_lp_182_0) (fun k hk => ((up2_k _ _ (by omega)).trans ((hfr_208 428 k (by omega)).trans (hi_lp_182_1 k hk)))) ⟨fun q => by exfalso; omega, fun q1 q2 => by exfalso; omega⟩ hO_223 (fun a b ha => ((up2_o _ _ (by omega)).trans ((hfr_208 a b (by omega)).trans (hfr_j2 a b (by omega))))) (lv_sub hl [0, 1, 2] rfl) hH hS
          have hnx_227 : (im_173 428 x.toInt.toNat).toInt = ((j1 428 (x.toInt).toNat) : Int32).toInt := congrArg Int32.toInt ((hfr_174 428 (x.toInt).toNat (by omega)))
          have hnx_227l : (100 : Int32).toInt = 100 := rfl
          have hnx_228 : (im_173 428 x.toInt.toNat).toInt = ((j1 428 (x.toInt).toNat) : Int32).toInt := congrArg Int32.toInt ((hfr_174 428 (x.toInt).toNat (by omega)))
          have hnx_228l : (100 : Int32).toInt = 100 := rfl
          have hnx_229 : (im_173 428 x.toInt.toNat).toInt = ((j1 428 (x.toInt).toNat) : Int32).toInt := congrArg Int32.toInt ((hfr_174 428 (x.toInt).toNat (by omega)))
          have hnx_229l : (100 : Int32).toInt = 100 := rfl
          exact lp_182 _  _ _ _ ls (Nat.lt_succ_self _) (by rw [show (im_173 428 x.toInt.toNat).toInt = (j1 428 x.toInt.toNat).toInt by omega]; exact hi_lp_3_0) (fun k hk => ((hfr_174 428 k (by omega)).trans (hi_lp_3_1 k hk))) ⟨fun _ => (by have h9 := (hbo_178.resolve_right (fun q => by have := q.1; omega)).2; unfold mdP; rw [show (im_173 428 x.toInt.toNat).toInt.toNat = (j1 428 (x.toInt).toNat).toInt.toNat by omega]; exact (congrArg (fun q => mdue i 1 q _) (show i 400 (i 427 x.toInt.toNat).toInt.toNat = j1 400 (i 427 (x.toInt).toNat).toInt.toNat from (congrArg (i 400) (by omega)).trans ((hfr_j1 400 _ (by omega))).symm)).trans h9), fun q1 q2 => by exfalso; omega⟩ hO_175 (fun a b ha => rfl) (lv_sub hl [0, 1, 2] rfl) hH hS
        · skip
          have h_230 := s_eq (rfl : r_171.toInt = _) (show (0 : Int32).toInt = 0 from rfl) c_179
          refine lv_aload_n hx hb dX12_skip_33 rfl (lv_at hl 1 rfl) ?_
          refine h_getr (ci := 12) (C := RX12) (F := TX12) (N := 86) hx hb hts in12 hown hK hH (by decide) (rfl : kd 36 = 12) (by decide) rfl 84 (by decide) wd1 (fun _ h9 => h9) (by decide) rfl (t := 428) (hR 36 84 rfl) (by decide) dX12_skip_34 ?_
          refine lv_iload_n hx hb dX12_skip_37 rfl (lv_at hl 2 rfl) ?_
          refine lv_dup2_11 hx hb dX12_skip_38 rfl rfl ?_
          refine h_iald hx hb hK hH (by decide) (rfl : kd 428 = 13) (s_vin (N := 3) (rfl : x.toInt = _) (rfl : ln 428 = 3) (by omega) (by omega)) dX12_skip_39 ?_
          have ek_231 : x.toNatClampNeg = (x.toInt).toNat := (s_cl (show x.toInt = x.toInt by omega))
          refine sj_i (y := (j1 428 (x.toInt).toNat)) (by rw [ek_231]; exact (hfr_174 428 (x.toInt).toNat (by omega))) ?_
          refine lv_iconst (v := 1) hx hb dX12_skip_40 (by decide) ?_
          refine lv_iadd hx hb dX12_skip_41 ?_
          obtain ⟨z_232, ez_232, hz_232⟩ := s_add (rfl : (j1 428 (x.toInt).toNat).toInt = _) (show (1 : Int32).toInt = 1 from rfl) (by omega) (by omega)
          refine sj_i ez_232 ?_
          have hO_233 := okp hO_175 (n := 428) (k := (x.toInt).toNat) (v := z_232) (show (0 : Int) ≤ (z_232 : Int32).toInt ∧ (z_232 : Int32).toInt ≤ 108 from ⟨by omega, by omega⟩)
          refine h_iast hx hb hK hH hS (by decide) (rfl : kd 428 = 13) (s_vin (N := 3) (rfl : x.toInt = _) (rfl : ln 428 = 3) (by omega) (by omega)) dX12_skip_42 (fun H locs hH hS => ?_)
          rw [s_cl (show x.toInt = x.toInt by omega)] at hH
          refine lv_goto (tgt := 7) hx hb dX12_skip_43 (by decide) ?_
          have hnx_234 : ((up2 im_173 428 (x.toInt).toNat z_232) 428 x.toInt.toNat).toInt = (z_232 : Int32).toInt := congrArg Int32.toInt ((up2_at _ _ _ _))
          have hnx_234l : (100 : Int32).toInt = 100 := rfl
          have hnx_235 : ((up2 im_173 428 (x.toInt).toNat z_232) 428 x.toInt.toNat).toInt = (z_232 : Int32).toInt := congrArg Int32.toInt ((up2_at _ _ _ _))
          have hnx_235l : (100 : Int32).toInt = 100 := rfl
          exact ih_lp_3  _ _ _ ls (by omega) ((mwr_b hmr0 (by omega) (by omega) (by omega) (by have h9 := (hbo_178.resolve_left (fun q => by have := q.1; omega)).2; unfold mdP; rw [show (j1 428 x.toInt.toNat).toInt.toNat = (j1 428 (x.toInt).toNat).toInt.toNat by omega]; exact (congrArg (fun q => mdue i 1 q _) (show i 400 (i 427 x.toInt.toNat).toInt.toNat = j1 400 (i 427 (x.toInt).toNat).toInt.toNat from (congrArg (i 400) (by omega)).trans ((hfr_j1 400 _ (by omega))).symm)).trans h9)).trans hi_lp_3_0) (fun k hk => ((up2_k _ _ (by omega)).trans ((hfr_174 428 k (by omega)).trans (hi_lp_3_1 k hk)))) hO_233 (fun a b ha => ((up2_o _ _ (by omega)).trans ((hfr_174 a b (by omega)).trans (hfr_j1 a b (by omega))))) (lv_sub hl [0, 1, 2] rfl) hH hS
  have hnx_236 : (i 428 x.toInt.toNat).toInt = ((i 428 (x.toInt).toNat) : Int32).toInt := congrArg Int32.toInt (rfl)
  have hnx_236l : (100 : Int32).toInt = 100 := rfl
  have hnx_237 : (i 428 x.toInt.toNat).toInt = ((i 428 (x.toInt).toNat) : Int32).toInt := congrArg Int32.toInt (rfl)
  have hnx_237l : (100 : Int32).toInt = 100 := rfl
  exact lp_3 _  _ _ _ ls (Nat.lt_succ_self _) rfl (nxO_0 (fun _ => rfl)) hO (fun a b ha => rfl) (lv_sub hl [0, 1, 2] rfl) hH hS
