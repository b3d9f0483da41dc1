/-- a filter is kept, or not -/
def ftC (i u : Nat → Nat → Int32) (r v : Nat → Nat → Nat) (a b : Nat) : Prop := (¬ cTk i ∧ v 0 12 = r 0 12 ∧ v 0 13 = r 0 13 ∧ tgJ u a = tgJ i a ∧ tgO u a) ∨ (cTk i ∧ v 0 12 = 357 + 2 * b ∧ v 0 13 = 357 + 2 * a ∧ tgJ u b = sqz (cTx i) ∧ tgO u b)
/-- what the cases that the filter lets through take -/
def ksum (i : Nat → Nat → Int32) (r : Nat → Nat → Nat) (a : Nat) : Nat → Int
  | 0 => 0
  | n + 1 => ksum i r a n + (if tgH i a (ctag i n) = true then caseM i r n else 0)
section KS
variable {i u : Nat → Nat → Int32} {r : Nat → Nat → Nat} {d : Nat → Nat → UInt64} {a : Nat}
/-- the queue, while it is laid -/
def quI (i j : Nat → Nat → Int32) (r : Nat → Nat → Nat) (a : Nat) (n : Int) : Prop := (0 ≤ (j 23 4).toInt ∧ (j 23 4).toInt ≤ n) ∧ qsum (caseM i r) (j 28) (j 23 4).toInt.toNat = ksum i r a n.toNat ∧ ∀ k : Nat, (k : Int) < (j 23 4).toInt → 0 ≤ (j 28 k).toInt ∧ (j 28 k).toInt < n
theorem quI_0 {j : Nat → Nat → Int32} {n : Int} (h : (j 23 4).toInt = 0) (hn : n = 0) : quI i j r a n := by
  subst hn
  refine ⟨⟨by omega, by omega⟩, ?_, fun k hk => by omega⟩
  rw [h]; rfl
theorem qsum_up {f : Nat → Int} {q s : Nat → Int32} : ∀ n : Nat, (∀ k : Nat, k < n → s k = q k) → qsum f s n = qsum f q n
  | 0, _ => rfl
  | n + 1, h => by
    rw [qsum_s, qsum_s, qsum_up n (fun k hk => h k (by omega)), h n (by omega)]
theorem quI_n {j u : Nat → Nat → Int32} {n m : Int} (h : quI i j r a n) (h0 : 0 ≤ n) (e : m = n + 1) (hf : tgH i a (ctag i n.toNat) = false) (e4 : (u 23 4).toInt = (j 23 4).toInt) (e28 : u 28 = j 28) : quI i u r a m := by
  obtain ⟨⟨h1, h1b⟩, h2, h3⟩ := h
  subst e
  refine ⟨⟨by omega, by omega⟩, ?_, fun k hk => ?_⟩
  · rw [e4, e28, h2, show (n + 1).toNat = n.toNat + 1 by omega]
    unfold ksum
    rw [hf]; simp
  · rw [e28]; rw [e4] at hk
    have := h3 k hk; omega
theorem quI_y {j u : Nat → Nat → Int32} {n m : Int} {x : Int32} (h : quI i j r a n) (h0 : 0 ≤ n) (e : m = n + 1) (hf : tgH i a (ctag i n.toNat) = true) (e4 : (u 23 4).toInt = (j 23 4).toInt + 1) (ex : x.toInt = n) (e28 : u 28 (j 23 4).toInt.toNat = x) (e28b : ∀ k : Nat, k ≠ (j 23 4).toInt.toNat → u 28 k = j 28 k) : quI i u r a m := by
  obtain ⟨⟨h1, h1b⟩, h2, h3⟩ := h
  subst e
  refine ⟨⟨by omega, by omega⟩, ?_, fun k hk => ?_⟩
  · rw [e4, show ((j 23 4).toInt + 1).toNat = (j 23 4).toInt.toNat + 1 by omega, qsum_s, qsum_up (q := j 28) _ (fun k hk => e28b k (by omega)), h2, e28, ex, show (n + 1).toNat = n.toNat + 1 by omega]
    rw [show ksum i r a (n.toNat + 1) = ksum i r a n.toNat + (if tgH i a (ctag i n.toNat) = true then caseM i r n.toNat else 0) from rfl, if_pos hf]
  · by_cases q : k = (j 23 4).toInt.toNat
    · rw [q, e28]; omega
    · rw [e28b k q]
      have := h3 k (by omega); omega
theorem qsum_f {f g : Nat → Int} {q : Nat → Int32} : ∀ n : Nat, (∀ k : Nat, k < n → f (q k).toInt.toNat = g (q k).toInt.toNat) → qsum f q n = qsum g q n := fun n h => qsum_same n h
/-- a run that has just begun -/
theorem kst_run (hO : OkI u) (hOi : OkI i) (hPCi : PC i r) (hPC : PC u r) (hSC : SC i u) (h13 : (u 13 4).toInt = (i 13 4).toInt) (h1 : 1 ≤ (u 23 1).toInt) (h2 : (u 23 2).toInt = 0) (h5 : (u 23 5).toInt = 0) (h6 : (u 23 6).toInt = 0) (hw : ∀ w : Nat, w < 3 → (u (25 + 1 * w) 1).toInt < 0) (hq : quI i u r a (i 13 4).toInt) : RU u r d ∧ rest u r = ksum i r a (i 13 4).toInt.toNat ∧ ((0 < (u 23 4).toInt ∧ 0 < ksum i r a (i 13 4).toInt.toNat) ∨ ((u 23 4).toInt = 0 ∧ ksum i r a (i 13 4).toInt.toNat ≤ 0)) := by
  obtain ⟨⟨q1, q1b⟩, q2, q3⟩ := hq
  have b13 : (i 13 4).toInt ≤ 24 := (hOi 13 4).2
  have ha : act u = 0 := by
    have a0 := act1_or u 0
    have a1 := act1_or u 1
    have a2 := act1_or u 2
    have s0 := hw 0 (by omega)
    have s1 := hw 1 (by omega)
    have s2 := hw 2 (by omega)
    unfold act; omega
  have hPQ : PQ u := fun k hk => by rw [h13]; exact q3 k hk
  have hRU : RU u r d := ⟨⟨h1, by omega, by omega, by omega, by omega⟩, hPQ, fun w hw3 => Or.inl (hw w hw3), fun w hw3 q => by have := hw w hw3; omega, fun w hw3 _ => hw w hw3⟩
  have e1 : qsum (caseM u r) (u 28) (u 23 4).toInt.toNat = qsum (caseM i r) (u 28) (u 23 4).toInt.toNat := qsum_same _ (fun k hk => by
    have h9 := q3 k (by omega)
    have h8 := (hPCi (u 28 k).toInt.toNat (by omega)).1 (by omega)
    exact caseM_same hOi hSC (by omega) (by omega) (by omega))
  have hr : rest u r = ksum i r a (i 13 4).toInt.toNat := by
    unfold rest qrem
    rw [wrem_no (hw 0 (by omega)), wrem_no (hw 1 (by omega)), wrem_no (hw 2 (by omega)), e1, q2, h5]
    show _ - (0 : Int) + 0 + 0 + 0 = _
    omega
  refine ⟨hRU, hr, ?_⟩
  have h9 := qrem_0 hO hPC hPQ (by omega)
  have h8 : rest u r = qrem u r := by
    unfold rest
    rw [wrem_no (hw 0 (by omega)), wrem_no (hw 1 (by omega)), wrem_no (hw 2 (by omega))]; omega
  by_cases q : (u 23 4).toInt = 0
  · refine Or.inr ⟨q, ?_⟩
    have : qrem u r = 0 := by unfold qrem; rw [q, h5]; omega
    omega
  · exact Or.inl ⟨by omega, by omega⟩
end KS
theorem dX11_filter_0 : decode cX11_filter 0 = .ok (.aload_n 0, 1) := by decide +kernel
theorem dX11_filter_1 : decode cX11_filter 1 = .ok (.getfield 44, 3) := by decide +kernel
theorem dX11_filter_4 : decode cX11_filter 4 = .ok (.getfield 88, 3) := by decide +kernel
theorem dX11_filter_7 : decode cX11_filter 7 = .ok (.ifCond .eq 11, 3) := by decide +kernel
theorem dX11_filter_18 : decode cX11_filter 18 = .ok (.aload_n 0, 1) := by decide +kernel
theorem dX11_filter_19 : decode cX11_filter 19 = .ok (.getfield 77, 3) := by decide +kernel
theorem dX11_filter_22 : decode cX11_filter 22 = .ok (.aload_n 0, 1) := by decide +kernel
theorem dX11_filter_23 : decode cX11_filter 23 = .ok (.getfield 14, 3) := by decide +kernel
theorem dX11_filter_26 : decode cX11_filter 26 = .ok (.invokevirtual 133, 3) := by decide +kernel
theorem dX11_filter_29 : decode cX11_filter 29 = .ok (.istore_n 1, 1) := by decide +kernel
theorem dX11_filter_30 : decode cX11_filter 30 = .ok (.aload_n 0, 1) := by decide +kernel
theorem dX11_filter_31 : decode cX11_filter 31 = .ok (.getfield 14, 3) := by decide +kernel
theorem dX11_filter_34 : decode cX11_filter 34 = .ok (.iconst 0, 1) := by decide +kernel
theorem dX11_filter_35 : decode cX11_filter 35 = .ok (.putfield 80, 3) := by decide +kernel
theorem dX11_filter_38 : decode cX11_filter 38 = .ok (.iload_n 1, 1) := by decide +kernel
theorem dX11_filter_39 : decode cX11_filter 39 = .ok (.ifCond .ne 11, 3) := by decide +kernel
theorem dX11_filter_50 : decode cX11_filter 50 = .ok (.aload_n 0, 1) := by decide +kernel
theorem dX11_filter_51 : decode cX11_filter 51 = .ok (.getfield 73, 3) := by decide +kernel
theorem dX11_filter_54 : decode cX11_filter 54 = .ok (.astore_n 2, 1) := by decide +kernel
theorem dX11_filter_55 : decode cX11_filter 55 = .ok (.aload_n 0, 1) := by decide +kernel
theorem dX11_filter_56 : decode cX11_filter 56 = .ok (.aload_n 0, 1) := by decide +kernel
theorem dX11_filter_57 : decode cX11_filter 57 = .ok (.getfield 77, 3) := by decide +kernel
theorem dX11_filter_60 : decode cX11_filter 60 = .ok (.putfield 73, 3) := by decide +kernel
theorem dX11_filter_63 : decode cX11_filter 63 = .ok (.aload_n 0, 1) := by decide +kernel
theorem dX11_filter_64 : decode cX11_filter 64 = .ok (.aload_n 2, 1) := by decide +kernel
theorem dX11_filter_65 : decode cX11_filter 65 = .ok (.putfield 77, 3) := by decide +kernel
theorem dX11_filter_68 : decode cX11_filter 68 = .ok (.iconst 0, 1) := by decide +kernel
theorem dX11_filter_69 : decode cX11_filter 69 = .ok (.istore_n 3, 1) := by decide +kernel
theorem dX11_filter_70 : decode cX11_filter 70 = .ok (.iconst 0, 1) := by decide +kernel
theorem dX11_filter_71 : decode cX11_filter 71 = .ok (.istore 4, 2) := by decide +kernel
theorem dX11_filter_73 : decode cX11_filter 73 = .ok (.iload 4, 2) := by decide +kernel
theorem dX11_filter_75 : decode cX11_filter 75 = .ok (.aload_n 0, 1) := by decide +kernel
theorem dX11_filter_76 : decode cX11_filter 76 = .ok (.getfield 30, 3) := by decide +kernel
theorem dX11_filter_79 : decode cX11_filter 79 = .ok (.getfield 134, 3) := by decide +kernel
theorem dX11_filter_82 : decode cX11_filter 82 = .ok (.if_icmp .ge 35, 3) := by decide +kernel
theorem dX11_filter_117 : decode cX11_filter 117 = .ok (.iload_n 3, 1) := by decide +kernel
theorem dX11_filter_118 : decode cX11_filter 118 = .ok (.ireturn, 1) := by decide +kernel
theorem dX11_filter_85 : decode cX11_filter 85 = .ok (.aload_n 0, 1) := by decide +kernel
theorem dX11_filter_86 : decode cX11_filter 86 = .ok (.getfield 73, 3) := by decide +kernel
theorem dX11_filter_89 : decode cX11_filter 89 = .ok (.aload_n 0, 1) := by decide +kernel
theorem dX11_filter_90 : decode cX11_filter 90 = .ok (.getfield 30, 3) := by decide +kernel
theorem dX11_filter_93 : decode cX11_filter 93 = .ok (.getfield 137, 3) := by decide +kernel
theorem dX11_filter_96 : decode cX11_filter 96 = .ok (.iload 4, 2) := by decide +kernel
theorem dX11_filter_98 : decode cX11_filter 98 = .ok (.aaload, 1) := by decide +kernel
theorem dX11_filter_99 : decode cX11_filter 99 = .ok (.getfield 141, 3) := by decide +kernel
theorem dX11_filter_102 : decode cX11_filter 102 = .ok (.invokevirtual 146, 3) := by decide +kernel
theorem dX11_filter_105 : decode cX11_filter 105 = .ok (.ifCond .eq 6, 3) := by decide +kernel
theorem dX11_filter_111 : decode cX11_filter 111 = .ok (.iinc 4 1, 3) := by decide +kernel
theorem dX11_filter_114 : decode cX11_filter 114 = .ok (.goto (-41), 3) := by decide +kernel
theorem dX11_filter_108 : decode cX11_filter 108 = .ok (.iinc 3 1, 3) := by decide +kernel
theorem dX11_filter_42 : decode cX11_filter 42 = .ok (.new 124, 3) := by decide +kernel
theorem dX11_filter_45 : decode cX11_filter 45 = .ok (.dup, 1) := by decide +kernel
theorem dX11_filter_46 : decode cX11_filter 46 = .ok (.invokespecial 126, 3) := by decide +kernel
theorem dX11_filter_49 : decode cX11_filter 49 = .ok (.athrow, 1) := by decide +kernel
theorem dX11_filter_10 : decode cX11_filter 10 = .ok (.new 92, 3) := by decide +kernel
theorem dX11_filter_13 : decode cX11_filter 13 = .ok (.dup, 1) := by decide +kernel
theorem dX11_filter_14 : decode cX11_filter 14 = .ok (.invokespecial 94, 3) := by decide +kernel
theorem dX11_filter_17 : decode cX11_filter 17 = .ok (.athrow, 1) := by decide +kernel
theorem dX11_start_0 : decode cX11_start 0 = .ok (.aload_n 0, 1) := by decide +kernel
theorem dX11_start_1 : decode cX11_start 1 = .ok (.getfield 44, 3) := by decide +kernel
theorem dX11_start_4 : decode cX11_start 4 = .ok (.getfield 88, 3) := by decide +kernel
theorem dX11_start_7 : decode cX11_start 7 = .ok (.ifCond .eq 11, 3) := by decide +kernel
theorem dX11_start_18 : decode cX11_start 18 = .ok (.iload_n 1, 1) := by decide +kernel
theorem dX11_start_19 : decode cX11_start 19 = .ok (.iconst 1, 1) := by decide +kernel
theorem dX11_start_20 : decode cX11_start 20 = .ok (.if_icmp .lt 8, 3) := by decide +kernel
theorem dX11_start_28 : decode cX11_start 28 = .ok (.new 124, 3) := by decide +kernel
theorem dX11_start_31 : decode cX11_start 31 = .ok (.dup, 1) := by decide +kernel
theorem dX11_start_32 : decode cX11_start 32 = .ok (.invokespecial 126, 3) := by decide +kernel
theorem dX11_start_35 : decode cX11_start 35 = .ok (.athrow, 1) := by decide +kernel
theorem dX11_start_23 : decode cX11_start 23 = .ok (.iload_n 1, 1) := by decide +kernel
theorem dX11_start_24 : decode cX11_start 24 = .ok (.iconst 3, 1) := by decide +kernel
theorem dX11_start_25 : decode cX11_start 25 = .ok (.if_icmp .le 11, 3) := by decide +kernel
theorem dX11_start_36 : decode cX11_start 36 = .ok (.aload_n 0, 1) := by decide +kernel
theorem dX11_start_37 : decode cX11_start 37 = .ok (.getfield 44, 3) := by decide +kernel
theorem dX11_start_40 : decode cX11_start 40 = .ok (.iload_n 1, 1) := by decide +kernel
theorem dX11_start_41 : decode cX11_start 41 = .ok (.invokevirtual 226, 3) := by decide +kernel
theorem dX11_start_44 : decode cX11_start 44 = .ok (.iconst 0, 1) := by decide +kernel
theorem dX11_start_45 : decode cX11_start 45 = .ok (.istore_n 2, 1) := by decide +kernel
theorem dX11_start_46 : decode cX11_start 46 = .ok (.iload_n 2, 1) := by decide +kernel
theorem dX11_start_47 : decode cX11_start 47 = .ok (.aload_n 0, 1) := by decide +kernel
theorem dX11_start_48 : decode cX11_start 48 = .ok (.getfield 30, 3) := by decide +kernel
theorem dX11_start_51 : decode cX11_start 51 = .ok (.getfield 134, 3) := by decide +kernel
theorem dX11_start_54 : decode cX11_start 54 = .ok (.if_icmp .ge 46, 3) := by decide +kernel
theorem dX11_start_100 : decode cX11_start 100 = .ok (.aload_n 0, 1) := by decide +kernel
theorem dX11_start_101 : decode cX11_start 101 = .ok (.getfield 44, 3) := by decide +kernel
theorem dX11_start_104 : decode cX11_start 104 = .ok (.iconst 0, 1) := by decide +kernel
theorem dX11_start_105 : decode cX11_start 105 = .ok (.aload_n 0, 1) := by decide +kernel
theorem dX11_start_106 : decode cX11_start 106 = .ok (.getfield 44, 3) := by decide +kernel
theorem dX11_start_109 : decode cX11_start 109 = .ok (.getfield 232, 3) := by decide +kernel
theorem dX11_start_112 : decode cX11_start 112 = .ok (.iload_n 1, 1) := by decide +kernel
theorem dX11_start_113 : decode cX11_start 113 = .ok (.iconst 0, 1) := by decide +kernel
theorem dX11_start_114 : decode cX11_start 114 = .ok (.invokevirtual 235, 3) := by decide +kernel
theorem dX11_start_117 : decode cX11_start 117 = .ok (.aload_n 0, 1) := by decide +kernel
theorem dX11_start_118 : decode cX11_start 118 = .ok (.getfield 44, 3) := by decide +kernel
theorem dX11_start_121 : decode cX11_start 121 = .ok (.invokevirtual 239, 3) := by decide +kernel
theorem dX11_start_124 : decode cX11_start 124 = .ok (.aload_n 0, 1) := by decide +kernel
theorem dX11_start_125 : decode cX11_start 125 = .ok (.getfield 44, 3) := by decide +kernel
theorem dX11_start_128 : decode cX11_start 128 = .ok (.getfield 232, 3) := by decide +kernel
theorem dX11_start_131 : decode cX11_start 131 = .ok (.ireturn, 1) := by decide +kernel
theorem dX11_start_57 : decode cX11_start 57 = .ok (.aload_n 0, 1) := by decide +kernel
theorem dX11_start_58 : decode cX11_start 58 = .ok (.getfield 30, 3) := by decide +kernel
theorem dX11_start_61 : decode cX11_start 61 = .ok (.getfield 137, 3) := by decide +kernel
theorem dX11_start_64 : decode cX11_start 64 = .ok (.iload_n 2, 1) := by decide +kernel
theorem dX11_start_65 : decode cX11_start 65 = .ok (.aaload, 1) := by decide +kernel
theorem dX11_start_66 : decode cX11_start 66 = .ok (.astore_n 3, 1) := by decide +kernel
theorem dX11_start_67 : decode cX11_start 67 = .ok (.aload_n 3, 1) := by decide +kernel
theorem dX11_start_68 : decode cX11_start 68 = .ok (.iconst (-1), 1) := by decide +kernel
theorem dX11_start_69 : decode cX11_start 69 = .ok (.putfield 173, 3) := by decide +kernel
theorem dX11_start_72 : decode cX11_start 72 = .ok (.aload_n 0, 1) := by decide +kernel
theorem dX11_start_73 : decode cX11_start 73 = .ok (.getfield 73, 3) := by decide +kernel
theorem dX11_start_76 : decode cX11_start 76 = .ok (.aload_n 3, 1) := by decide +kernel
theorem dX11_start_77 : decode cX11_start 77 = .ok (.getfield 141, 3) := by decide +kernel
theorem dX11_start_80 : decode cX11_start 80 = .ok (.invokevirtual 146, 3) := by decide +kernel
theorem dX11_start_83 : decode cX11_start 83 = .ok (.ifCond .eq 11, 3) := by decide +kernel
theorem dX11_start_94 : decode cX11_start 94 = .ok (.iinc 2 1, 3) := by decide +kernel
theorem dX11_start_97 : decode cX11_start 97 = .ok (.goto (-51), 3) := by decide +kernel
theorem dX11_start_86 : decode cX11_start 86 = .ok (.aload_n 0, 1) := by decide +kernel
theorem dX11_start_87 : decode cX11_start 87 = .ok (.getfield 44, 3) := by decide +kernel
theorem dX11_start_90 : decode cX11_start 90 = .ok (.iload_n 2, 1) := by decide +kernel
theorem dX11_start_91 : decode cX11_start 91 = .ok (.invokevirtual 229, 3) := by decide +kernel
theorem dX11_start_10 : decode cX11_start 10 = .ok (.new 92, 3) := by decide +kernel
theorem dX11_start_13 : decode cX11_start 13 = .ok (.dup, 1) := by decide +kernel
theorem dX11_start_14 : decode cX11_start 14 = .ok (.invokespecial 94, 3) := by decide +kernel
theorem dX11_start_17 : decode cX11_start 17 = .ok (.athrow, 1) := by decide +kernel
theorem gX11_filter_X9_take : GoodIn wsX11_filter (wsV RX11 133 RX9 yX9_take wsX9_take) := goodIn_app (goodIn_sub (List.forall_mem_cons.mpr ⟨(List.mem_cons_of_mem _ (List.mem_append_left _ (List.mem_append_left _ (List.mem_append_left _ (List.mem_append_left _ (List.mem_append_left _ (List.mem_append_left _ (List.mem_append_left _ (List.mem_append_left _ (List.mem_append_left _ lm14)))))))))), List.forall_mem_cons.mpr ⟨(List.mem_cons_of_mem _ (List.mem_append_left _ (List.mem_append_left _ (List.mem_append_left _ (List.mem_append_left _ (List.mem_append_left _ (List.mem_append_left _ (List.mem_append_left _ (List.mem_append_left _ (List.mem_append_left _ lm15)))))))))), List.forall_mem_cons.mpr ⟨(List.mem_cons_of_mem _ (List.mem_append_left _ (List.mem_append_left _ (List.mem_append_left _ (List.mem_append_left _ (List.mem_append_left _ (List.mem_append_left _ (List.mem_append_left _ (List.mem_append_left _ (List.mem_append_left _ lm16)))))))))), List.forall_mem_cons.mpr ⟨(List.mem_cons_of_mem _ (List.mem_append_left _ (List.mem_append_left _ (List.mem_append_left _ (List.mem_append_left _ (List.mem_append_left _ (List.mem_append_left _ (List.mem_append_left _ (List.mem_append_left _ (List.mem_append_left _ lm17)))))))))), (fun _ h => absurd h List.not_mem_nil)⟩⟩⟩⟩) (by decide +kernel)) (goodIn_sub (by unfold wsX9_take; exact List.forall_mem_cons.mpr ⟨(List.mem_cons_of_mem _ (List.mem_append_left _ (List.mem_append_left _ (List.mem_append_left _ (List.mem_append_left _ (List.mem_append_left _ (List.mem_append_left _ (List.mem_append_left _ (List.mem_append_left _ (List.mem_append_left _ lm18)))))))))), List.forall_mem_append.mpr ⟨List.forall_mem_append.mpr ⟨List.forall_mem_cons.mpr ⟨(List.mem_cons_of_mem _ (List.mem_append_left _ (List.mem_append_left _ (List.mem_append_left _ (List.mem_append_left _ (List.mem_append_left _ (List.mem_append_left _ (List.mem_append_left _ (List.mem_append_left _ (List.mem_append_left _ lm19)))))))))), List.forall_mem_cons.mpr ⟨(List.mem_cons_of_mem _ (List.mem_append_left _ (List.mem_append_left _ (List.mem_append_left _ (List.mem_append_left _ (List.mem_append_left _ (List.mem_append_left _ (List.mem_append_left _ (List.mem_append_left _ (List.mem_append_left _ lm20)))))))))), List.forall_mem_cons.mpr ⟨(List.mem_cons_of_mem _ (List.mem_append_left _ (List.mem_append_left _ (List.mem_append_left _ (List.mem_append_left _ (List.mem_append_left _ (List.mem_append_left _ (List.mem_append_left _ (List.mem_append_left _ (List.mem_append_left _ lm21)))))))))), List.forall_mem_cons.mpr ⟨(List.mem_cons_of_mem _ (List.mem_append_left _ (List.mem_append_left _ (List.mem_append_left _ (List.mem_append_left _ (List.mem_append_left _ (List.mem_append_left _ (List.mem_append_left _ (List.mem_append_left _ (List.mem_append_left _ lm22)))))))))), List.forall_mem_cons.mpr ⟨(List.mem_cons_of_mem _ (List.mem_append_left _ (List.mem_append_left _ (List.mem_append_left _ (List.mem_append_left _ (List.mem_append_left _ (List.mem_append_left _ (List.mem_append_left _ (List.mem_append_left _ (List.mem_append_left _ lm23)))))))))), List.forall_mem_cons.mpr ⟨(List.mem_cons_of_mem _ (List.mem_append_left _ (List.mem_append_left _ (List.mem_append_left _ (List.mem_append_left _ (List.mem_append_left _ (List.mem_append_left _ (List.mem_append_left _ (List.mem_append_left _ (List.mem_append_right _ lm0)))))))))), List.forall_mem_cons.mpr ⟨(List.mem_cons_of_mem _ (List.mem_append_left _ (List.mem_append_left _ (List.mem_append_left _ (List.mem_append_left _ (List.mem_append_left _ (List.mem_append_left _ (List.mem_append_left _ (List.mem_append_left _ (List.mem_append_right _ lm1)))))))))), List.forall_mem_cons.mpr ⟨(List.mem_cons_of_mem _ (List.mem_append_left _ (List.mem_append_left _ (List.mem_append_left _ (List.mem_append_left _ (List.mem_append_left _ (List.mem_append_left _ (List.mem_append_left _ (List.mem_append_left _ (List.mem_append_right _ lm2)))))))))), List.forall_mem_cons.mpr ⟨(List.mem_cons_of_mem _ (List.mem_append_left _ (List.mem_append_left _ (List.mem_append_left _ (List.mem_append_left _ (List.mem_append_left _ (List.mem_append_left _ (List.mem_append_left _ (List.mem_append_left _ (List.mem_append_right _ lm3)))))))))), List.forall_mem_cons.mpr ⟨(List.mem_cons_of_mem _ (List.mem_append_left _ (List.mem_append_left _ (List.mem_append_left _ (List.mem_append_left _ (List.mem_append_left _ (List.mem_append_left _ (List.mem_append_left _ (List.mem_append_left _ (List.mem_append_left _ lm17)))))))))), List.forall_mem_cons.mpr ⟨(List.mem_cons_of_mem _ (List.mem_append_left _ (List.mem_append_left _ (List.mem_append_left _ (List.mem_append_left _ (List.mem_append_left _ (List.mem_append_left _ (List.mem_append_left _ (List.mem_append_left _ (List.mem_append_right _ lm4)))))))))), List.forall_mem_cons.mpr ⟨(List.mem_cons_of_mem _ (List.mem_append_left _ (List.mem_append_left _ (List.mem_append_left _ (List.mem_append_left _ (List.mem_append_left _ (List.mem_append_left _ (List.mem_append_left _ (List.mem_append_left _ (List.mem_append_right _ lm5)))))))))), List.forall_mem_cons.mpr ⟨(List.mem_cons_of_mem _ (List.mem_append_left _ (List.mem_append_left _ (List.mem_append_left _ (List.mem_append_left _ (List.mem_append_left _ (List.mem_append_left _ (List.mem_append_left _ (List.mem_append_left _ (List.mem_append_right _ lm6)))))))))), List.forall_mem_cons.mpr ⟨(List.mem_cons_of_mem _ (List.mem_append_left _ (List.mem_append_left _ (List.mem_append_left _ (List.mem_append_left _ (List.mem_append_left _ (List.mem_append_left _ (List.mem_append_left _ (List.mem_append_left _ (List.mem_append_right _ lm7)))))))))), List.forall_mem_cons.mpr ⟨(List.mem_cons_of_mem _ (List.mem_append_left _ (List.mem_append_left _ (List.mem_append_left _ (List.mem_append_left _ (List.mem_append_left _ (List.mem_append_left _ (List.mem_append_left _ (List.mem_append_left _ (List.mem_append_right _ lm8)))))))))), List.forall_mem_cons.mpr ⟨(List.mem_cons_of_mem _ (List.mem_append_left _ (List.mem_append_left _ (List.mem_append_left _ (List.mem_append_left _ (List.mem_append_left _ (List.mem_append_left _ (List.mem_append_left _ (List.mem_append_left _ (List.mem_append_right _ lm9)))))))))), List.forall_mem_cons.mpr ⟨(List.mem_cons_of_mem _ (List.mem_append_left _ (List.mem_append_left _ (List.mem_append_left _ (List.mem_append_left _ (List.mem_append_left _ (List.mem_append_left _ (List.mem_append_left _ (List.mem_append_left _ (List.mem_append_right _ lm10)))))))))), List.forall_mem_cons.mpr ⟨(List.mem_cons_of_mem _ (List.mem_append_left _ (List.mem_append_left _ (List.mem_append_left _ (List.mem_append_left _ (List.mem_append_left _ (List.mem_append_left _ (List.mem_append_left _ (List.mem_append_left _ (List.mem_append_right _ lm11)))))))))), List.forall_mem_cons.mpr ⟨(List.mem_cons_of_mem _ (List.mem_append_left _ (List.mem_append_left _ (List.mem_append_left _ (List.mem_append_left _ (List.mem_append_left _ (List.mem_append_left _ (List.mem_append_left _ (List.mem_append_left _ (List.mem_append_right _ lm12)))))))))), List.forall_mem_cons.mpr ⟨(List.mem_cons_of_mem _ (List.mem_append_left _ (List.mem_append_left _ (List.mem_append_left _ (List.mem_append_left _ (List.mem_append_left _ (List.mem_append_left _ (List.mem_append_left _ (List.mem_append_left _ (List.mem_append_right _ lm13)))))))))), List.forall_mem_cons.mpr ⟨(List.mem_cons_of_mem _ (List.mem_append_left _ (List.mem_append_left _ (List.mem_append_left _ (List.mem_append_left _ (List.mem_append_left _ (List.mem_append_left _ (List.mem_append_left _ (List.mem_append_left _ (List.mem_append_right _ lm14)))))))))), List.forall_mem_cons.mpr ⟨(List.mem_cons_of_mem _ (List.mem_append_left _ (List.mem_append_left _ (List.mem_append_left _ (List.mem_append_left _ (List.mem_append_left _ (List.mem_append_left _ (List.mem_append_left _ (List.mem_append_left _ (List.mem_append_right _ lm15)))))))))), List.forall_mem_cons.mpr ⟨(List.mem_cons_of_mem _ (List.mem_append_left _ (List.mem_append_left _ (List.mem_append_left _ (List.mem_append_left _ (List.mem_append_left _ (List.mem_append_left _ (List.mem_append_left _ (List.mem_append_left _ (List.mem_append_right _ lm16)))))))))), (fun _ h => absurd h List.not_mem_nil)⟩⟩⟩⟩⟩⟩⟩⟩⟩⟩⟩⟩⟩⟩⟩⟩⟩⟩⟩⟩⟩⟩⟩, (fun _ h => (List.mem_cons_of_mem _ (List.mem_append_left _ (List.mem_append_left _ (List.mem_append_right _ h)))))⟩, (fun _ h => (List.mem_cons_of_mem _ (List.mem_append_left _ (List.mem_append_left _ (List.mem_append_left _ (List.mem_append_left _ (List.mem_append_left _ (List.mem_append_right _ h))))))))⟩⟩) gw_X9_take)
theorem gX11_filter_X9_holds : GoodIn wsX11_filter (wsV RX11 146 RX9 yX9_holds wsX9_holds) := goodIn_app (goodIn_sub (List.forall_mem_cons.mpr ⟨(List.mem_cons_of_mem _ (List.mem_append_left _ (List.mem_append_left _ (List.mem_append_left _ (List.mem_append_left _ (List.mem_append_left _ (List.mem_append_left _ (List.mem_append_left _ (List.mem_append_left _ (List.mem_append_right _ lm17)))))))))), List.forall_mem_cons.mpr ⟨(List.mem_cons_of_mem _ (List.mem_append_left _ (List.mem_append_left _ (List.mem_append_left _ (List.mem_append_left _ (List.mem_append_left _ (List.mem_append_left _ (List.mem_append_left _ (List.mem_append_left _ (List.mem_append_right _ lm2)))))))))), List.forall_mem_cons.mpr ⟨(List.mem_cons_of_mem _ (List.mem_append_left _ (List.mem_append_left _ (List.mem_append_left _ (List.mem_append_left _ (List.mem_append_left _ (List.mem_append_left _ (List.mem_append_left _ (List.mem_append_left _ (List.mem_append_right _ lm3)))))))))), List.forall_mem_cons.mpr ⟨(List.mem_cons_of_mem _ (List.mem_append_left _ (List.mem_append_left _ (List.mem_append_left _ (List.mem_append_left _ (List.mem_append_left _ (List.mem_append_left _ (List.mem_append_left _ (List.mem_append_left _ (List.mem_append_left _ lm17)))))))))), (fun _ h => absurd h List.not_mem_nil)⟩⟩⟩⟩) (by decide +kernel)) (goodIn_sub (by unfold wsX9_holds; exact List.forall_mem_cons.mpr ⟨(List.mem_cons_of_mem _ (List.mem_append_left _ (List.mem_append_left _ (List.mem_append_left _ (List.mem_append_left _ (List.mem_append_left _ (List.mem_append_left _ (List.mem_append_left _ (List.mem_append_left _ (List.mem_append_right _ lm4)))))))))), List.forall_mem_append.mpr ⟨List.forall_mem_cons.mpr ⟨(List.mem_cons_of_mem _ (List.mem_append_left _ (List.mem_append_left _ (List.mem_append_left _ (List.mem_append_left _ (List.mem_append_left _ (List.mem_append_left _ (List.mem_append_left _ (List.mem_append_left _ (List.mem_append_right _ lm0)))))))))), List.forall_mem_cons.mpr ⟨(List.mem_cons_of_mem _ (List.mem_append_left _ (List.mem_append_left _ (List.mem_append_left _ (List.mem_append_left _ (List.mem_append_left _ (List.mem_append_left _ (List.mem_append_left _ (List.mem_append_left _ (List.mem_append_left _ lm23)))))))))), List.forall_mem_cons.mpr ⟨(List.mem_cons_of_mem _ (List.mem_append_left _ (List.mem_append_left _ (List.mem_append_left _ (List.mem_append_left _ (List.mem_append_left _ (List.mem_append_left _ (List.mem_append_left _ (List.mem_append_left _ (List.mem_append_left _ lm19)))))))))), List.forall_mem_cons.mpr ⟨(List.mem_cons_of_mem _ (List.mem_append_left _ (List.mem_append_left _ (List.mem_append_left _ (List.mem_append_left _ (List.mem_append_left _ (List.mem_append_left _ (List.mem_append_left _ (List.mem_append_left _ (List.mem_append_right _ lm5)))))))))), List.forall_mem_cons.mpr ⟨(List.mem_cons_of_mem _ (List.mem_append_left _ (List.mem_append_left _ (List.mem_append_left _ (List.mem_append_left _ (List.mem_append_left _ (List.mem_append_left _ (List.mem_append_left _ (List.mem_append_left _ (List.mem_append_right _ lm6)))))))))), List.forall_mem_cons.mpr ⟨(List.mem_cons_of_mem _ (List.mem_append_left _ (List.mem_append_left _ (List.mem_append_left _ (List.mem_append_left _ (List.mem_append_left _ (List.mem_append_left _ (List.mem_append_left _ (List.mem_append_left _ (List.mem_append_right _ lm7)))))))))), List.forall_mem_cons.mpr ⟨(List.mem_cons_of_mem _ (List.mem_append_left _ (List.mem_append_left _ (List.mem_append_left _ (List.mem_append_left _ (List.mem_append_left _ (List.mem_append_left _ (List.mem_append_left _ (List.mem_append_left _ (List.mem_append_left _ lm17)))))))))), List.forall_mem_cons.mpr ⟨(List.mem_cons_of_mem _ (List.mem_append_left _ (List.mem_append_left _ (List.mem_append_left _ (List.mem_append_left _ (List.mem_append_left _ (List.mem_append_left _ (List.mem_append_left _ (List.mem_append_left _ (List.mem_append_right _ lm8)))))))))), List.forall_mem_cons.mpr ⟨(List.mem_cons_of_mem _ (List.mem_append_left _ (List.mem_append_left _ (List.mem_append_left _ (List.mem_append_left _ (List.mem_append_left _ (List.mem_append_left _ (List.mem_append_left _ (List.mem_append_left _ (List.mem_append_left _ lm22)))))))))), List.forall_mem_cons.mpr ⟨(List.mem_cons_of_mem _ (List.mem_append_left _ (List.mem_append_left _ (List.mem_append_left _ (List.mem_append_left _ (List.mem_append_left _ (List.mem_append_left _ (List.mem_append_left _ (List.mem_append_left _ (List.mem_append_right _ lm9)))))))))), List.forall_mem_cons.mpr ⟨(List.mem_cons_of_mem _ (List.mem_append_left _ (List.mem_append_left _ (List.mem_append_left _ (List.mem_append_left _ (List.mem_append_left _ (List.mem_append_left _ (List.mem_append_left _ (List.mem_append_left _ (List.mem_append_right _ lm10)))))))))), List.forall_mem_cons.mpr ⟨(List.mem_cons_of_mem _ (List.mem_append_left _ (List.mem_append_left _ (List.mem_append_left _ (List.mem_append_left _ (List.mem_append_left _ (List.mem_append_left _ (List.mem_append_left _ (List.mem_append_left _ (List.mem_append_right _ lm11)))))))))), List.forall_mem_cons.mpr ⟨(List.mem_cons_of_mem _ (List.mem_append_left _ (List.mem_append_left _ (List.mem_append_left _ (List.mem_append_left _ (List.mem_append_left _ (List.mem_append_left _ (List.mem_append_left _ (List.mem_append_left _ (List.mem_append_right _ lm12)))))))))), List.forall_mem_cons.mpr ⟨(List.mem_cons_of_mem _ (List.mem_append_left _ (List.mem_append_left _ (List.mem_append_left _ (List.mem_append_left _ (List.mem_append_left _ (List.mem_append_left _ (List.mem_append_left _ (List.mem_append_left _ (List.mem_append_right _ lm13)))))))))), List.forall_mem_cons.mpr ⟨(List.mem_cons_of_mem _ (List.mem_append_left _ (List.mem_append_left _ (List.mem_append_left _ (List.mem_append_left _ (List.mem_append_left _ (List.mem_append_left _ (List.mem_append_left _ (List.mem_append_left _ (List.mem_append_right _ lm14)))))))))), List.forall_mem_cons.mpr ⟨(List.mem_cons_of_mem _ (List.mem_append_left _ (List.mem_append_left _ (List.mem_append_left _ (List.mem_append_left _ (List.mem_append_left _ (List.mem_append_left _ (List.mem_append_left _ (List.mem_append_left _ (List.mem_append_right _ lm15)))))))))), List.forall_mem_cons.mpr ⟨(List.mem_cons_of_mem _ (List.mem_append_left _ (List.mem_append_left _ (List.mem_append_left _ (List.mem_append_left _ (List.mem_append_left _ (List.mem_append_left _ (List.mem_append_left _ (List.mem_append_left _ (List.mem_append_right _ lm16)))))))))), (fun _ h => absurd h List.not_mem_nil)⟩⟩⟩⟩⟩⟩⟩⟩⟩⟩⟩⟩⟩⟩⟩⟩⟩, (fun _ h => (List.mem_cons_of_mem _ (List.mem_append_left _ (List.mem_append_left _ (List.mem_append_right _ h)))))⟩⟩) gw_X9_holds)
theorem gw_X7_clear : wsX7_clear.all goodWord = true := by decide +kernel
theorem gX11_start_X7_clear : GoodIn wsX11_start (wsV RX11 226 RX7 yX7_clear wsX7_clear) := goodIn_app (goodIn_sub (List.forall_mem_cons.mpr ⟨(List.mem_cons_of_mem _ (List.mem_append_left _ (List.mem_append_left _ (List.mem_append_left _ (List.mem_append_left _ (List.mem_append_left _ (List.mem_append_left _ (List.mem_append_left _ (List.mem_append_left _ (List.mem_append_left _ lm13)))))))))), List.forall_mem_cons.mpr ⟨(List.mem_cons_of_mem _ (List.mem_append_left _ (List.mem_append_left _ (List.mem_append_left _ (List.mem_append_left _ (List.mem_append_left _ (List.mem_append_left _ (List.mem_append_left _ (List.mem_append_left _ (List.mem_append_left _ lm14)))))))))), List.forall_mem_cons.mpr ⟨(List.mem_cons_of_mem _ (List.mem_append_left _ (List.mem_append_left _ (List.mem_append_left _ (List.mem_append_left _ (List.mem_append_left _ (List.mem_append_left _ (List.mem_append_left _ (List.mem_append_left _ (List.mem_append_left _ lm15)))))))))), List.forall_mem_cons.mpr ⟨(List.mem_cons_of_mem _ (List.mem_append_left _ (List.mem_append_left _ (List.mem_append_left _ (List.mem_append_left _ (List.mem_append_left _ (List.mem_append_left _ (List.mem_append_left _ (List.mem_append_left _ (List.mem_append_left _ lm16)))))))))), (fun _ h => absurd h List.not_mem_nil)⟩⟩⟩⟩) (by decide +kernel)) (goodIn_sub (by unfold wsX7_clear; exact List.forall_mem_cons.mpr ⟨(List.mem_cons_of_mem _ (List.mem_append_left _ (List.mem_append_left _ (List.mem_append_left _ (List.mem_append_left _ (List.mem_append_left _ (List.mem_append_left _ (List.mem_append_left _ (List.mem_append_left _ (List.mem_append_left _ lm17)))))))))), List.forall_mem_append.mpr ⟨List.forall_mem_append.mpr ⟨List.forall_mem_cons.mpr ⟨(List.mem_cons_of_mem _ (List.mem_append_left _ (List.mem_append_left _ (List.mem_append_left _ (List.mem_append_left _ (List.mem_append_left _ (List.mem_append_left _ (List.mem_append_left _ (List.mem_append_left _ (List.mem_append_left _ lm18)))))))))), List.forall_mem_cons.mpr ⟨(List.mem_cons_of_mem _ (List.mem_append_left _ (List.mem_append_left _ (List.mem_append_left _ (List.mem_append_left _ (List.mem_append_left _ (List.mem_append_left _ (List.mem_append_left _ (List.mem_append_left _ (List.mem_append_left _ lm19)))))))))), List.forall_mem_cons.mpr ⟨(List.mem_cons_of_mem _ (List.mem_append_left _ (List.mem_append_left _ (List.mem_append_left _ (List.mem_append_left _ (List.mem_append_left _ (List.mem_append_left _ (List.mem_append_left _ (List.mem_append_left _ (List.mem_append_left _ lm20)))))))))), List.forall_mem_cons.mpr ⟨(List.mem_cons_of_mem _ (List.mem_append_left _ (List.mem_append_left _ (List.mem_append_left _ (List.mem_append_left _ (List.mem_append_left _ (List.mem_append_left _ (List.mem_append_left _ (List.mem_append_left _ (List.mem_append_left _ lm21)))))))))), List.forall_mem_cons.mpr ⟨(List.mem_cons_of_mem _ (List.mem_append_left _ (List.mem_append_left _ (List.mem_append_left _ (List.mem_append_left _ (List.mem_append_left _ (List.mem_append_left _ (List.mem_append_left _ (List.mem_append_left _ (List.mem_append_left _ lm22)))))))))), List.forall_mem_cons.mpr ⟨(List.mem_cons_of_mem _ (List.mem_append_left _ (List.mem_append_left _ (List.mem_append_left _ (List.mem_append_left _ (List.mem_append_left _ (List.mem_append_left _ (List.mem_append_left _ (List.mem_append_left _ (List.mem_append_left _ lm23)))))))))), List.forall_mem_cons.mpr ⟨(List.mem_cons_of_mem _ (List.mem_append_left _ (List.mem_append_left _ (List.mem_append_left _ (List.mem_append_left _ (List.mem_append_left _ (List.mem_append_left _ (List.mem_append_left _ (List.mem_append_left _ (List.mem_append_right _ (List.mem_append_left _ lm0))))))))))), List.forall_mem_cons.mpr ⟨(List.mem_cons_of_mem _ (List.mem_append_left _ (List.mem_append_left _ (List.mem_append_left _ (List.mem_append_left _ (List.mem_append_left _ (List.mem_append_left _ (List.mem_append_left _ (List.mem_append_left _ (List.mem_append_right _ (List.mem_append_left _ lm1))))))))))), List.forall_mem_cons.mpr ⟨(List.mem_cons_of_mem _ (List.mem_append_left _ (List.mem_append_left _ (List.mem_append_left _ (List.mem_append_left _ (List.mem_append_left _ (List.mem_append_left _ (List.mem_append_left _ (List.mem_append_left _ (List.mem_append_right _ (List.mem_append_left _ lm2))))))))))), (fun _ h => absurd h List.not_mem_nil)⟩⟩⟩⟩⟩⟩⟩⟩⟩, (fun _ h => (List.mem_cons_of_mem _ (List.mem_append_left _ (List.mem_append_left _ (List.mem_append_left _ (List.mem_append_left _ (List.mem_append_left _ (List.mem_append_left _ (List.mem_append_right _ h)))))))))⟩, (fun _ h => (List.mem_cons_of_mem _ (List.mem_append_left _ (List.mem_append_left _ (List.mem_append_left _ (List.mem_append_right _ h))))))⟩⟩) gw_X7_clear)
theorem gX11_start_X7_tell : GoodIn wsX11_start (wsV RX11 235 RX7 yX7_tell wsX7_tell) := goodIn_app (goodIn_sub (List.forall_mem_cons.mpr ⟨(List.mem_cons_of_mem _ (List.mem_append_left _ (List.mem_append_left _ (List.mem_append_left _ (List.mem_append_left _ (List.mem_append_left _ (List.mem_append_left _ (List.mem_append_left _ (List.mem_append_left _ (List.mem_append_right _ (List.mem_append_right _ lm5))))))))))), List.forall_mem_cons.mpr ⟨(List.mem_cons_of_mem _ (List.mem_append_left _ (List.mem_append_left _ (List.mem_append_left _ (List.mem_append_left _ (List.mem_append_left _ (List.mem_append_left _ (List.mem_append_left _ (List.mem_append_left _ (List.mem_append_right _ (List.mem_append_right _ lm6))))))))))), List.forall_mem_cons.mpr ⟨(List.mem_cons_of_mem _ (List.mem_append_left _ (List.mem_append_left _ (List.mem_append_left _ (List.mem_append_left _ (List.mem_append_left _ (List.mem_append_left _ (List.mem_append_left _ (List.mem_append_left _ (List.mem_append_right _ (List.mem_append_right _ lm7))))))))))), List.forall_mem_cons.mpr ⟨(List.mem_cons_of_mem _ (List.mem_append_left _ (List.mem_append_left _ (List.mem_append_left _ (List.mem_append_left _ (List.mem_append_left _ (List.mem_append_left _ (List.mem_append_left _ (List.mem_append_left _ (List.mem_append_left _ lm16)))))))))), (fun _ h => absurd h List.not_mem_nil)⟩⟩⟩⟩) (by decide +kernel)) (goodIn_sub (by unfold wsX7_tell; exact List.forall_mem_cons.mpr ⟨(List.mem_cons_of_mem _ (List.mem_append_left _ (List.mem_append_left _ (List.mem_append_left _ (List.mem_append_left _ (List.mem_append_left _ (List.mem_append_left _ (List.mem_append_left _ (List.mem_append_left _ (List.mem_append_right _ (List.mem_append_right _ lm8))))))))))), List.forall_mem_append.mpr ⟨List.forall_mem_cons.mpr ⟨(List.mem_cons_of_mem _ (List.mem_append_left _ (List.mem_append_left _ (List.mem_append_left _ (List.mem_append_left _ (List.mem_append_left _ (List.mem_append_left _ (List.mem_append_left _ (List.mem_append_left _ (List.mem_append_right _ (List.mem_append_right _ lm9))))))))))), List.forall_mem_cons.mpr ⟨(List.mem_cons_of_mem _ (List.mem_append_left _ (List.mem_append_left _ (List.mem_append_left _ (List.mem_append_left _ (List.mem_append_left _ (List.mem_append_left _ (List.mem_append_left _ (List.mem_append_left _ (List.mem_append_right _ (List.mem_append_right _ lm10))))))))))), (fun _ h => absurd h List.not_mem_nil)⟩⟩, (fun _ h => (List.mem_cons_of_mem _ (List.mem_append_left _ (List.mem_append_left _ (List.mem_append_left _ (List.mem_append_left _ (List.mem_append_left _ (List.mem_append_left _ (List.mem_append_right _ h)))))))))⟩⟩) gw_X7_tell)
theorem gX11_start_X7_endIfNothingIsLeft : GoodIn wsX11_start (wsV RX11 239 RX7 yX7_endIfNothingIsLeft wsX7_endIfNothingIsLeft) := goodIn_app (goodIn_sub (List.forall_mem_cons.mpr ⟨(List.mem_cons_of_mem _ (List.mem_append_left _ (List.mem_append_left _ (List.mem_append_left _ (List.mem_append_left _ (List.mem_append_left _ (List.mem_append_left _ (List.mem_append_left _ (List.mem_append_left _ (List.mem_append_right _ (List.mem_append_right _ lm11))))))))))), List.forall_mem_cons.mpr ⟨(List.mem_cons_of_mem _ (List.mem_append_left _ (List.mem_append_left _ (List.mem_append_left _ (List.mem_append_left _ (List.mem_append_left _ (List.mem_append_left _ (List.mem_append_left _ (List.mem_append_left _ (List.mem_append_right _ (List.mem_append_right _ lm12))))))))))), List.forall_mem_cons.mpr ⟨(List.mem_cons_of_mem _ (List.mem_append_left _ (List.mem_append_left _ (List.mem_append_left _ (List.mem_append_left _ (List.mem_append_left _ (List.mem_append_left _ (List.mem_append_left _ (List.mem_append_left _ (List.mem_append_right _ (List.mem_append_right _ lm13))))))))))), List.forall_mem_cons.mpr ⟨(List.mem_cons_of_mem _ (List.mem_append_left _ (List.mem_append_left _ (List.mem_append_left _ (List.mem_append_left _ (List.mem_append_left _ (List.mem_append_left _ (List.mem_append_left _ (List.mem_append_left _ (List.mem_append_left _ lm16)))))))))), (fun _ h => absurd h List.not_mem_nil)⟩⟩⟩⟩) (by decide +kernel)) (goodIn_sub (by unfold wsX7_endIfNothingIsLeft; exact List.forall_mem_cons.mpr ⟨(List.mem_cons_of_mem _ (List.mem_append_left _ (List.mem_append_left _ (List.mem_append_left _ (List.mem_append_left _ (List.mem_append_left _ (List.mem_append_left _ (List.mem_append_left _ (List.mem_append_left _ (List.mem_append_right _ (List.mem_append_right _ lm14))))))))))), List.forall_mem_append.mpr ⟨List.forall_mem_append.mpr ⟨List.forall_mem_cons.mpr ⟨(List.mem_cons_of_mem _ (List.mem_append_left _ (List.mem_append_left _ (List.mem_append_left _ (List.mem_append_left _ (List.mem_append_left _ (List.mem_append_left _ (List.mem_append_left _ (List.mem_append_left _ (List.mem_append_left _ lm22)))))))))), List.forall_mem_cons.mpr ⟨(List.mem_cons_of_mem _ (List.mem_append_left _ (List.mem_append_left _ (List.mem_append_left _ (List.mem_append_left _ (List.mem_append_left _ (List.mem_append_left _ (List.mem_append_left _ (List.mem_append_left _ (List.mem_append_left _ lm20)))))))))), List.forall_mem_cons.mpr ⟨(List.mem_cons_of_mem _ (List.mem_append_left _ (List.mem_append_left _ (List.mem_append_left _ (List.mem_append_left _ (List.mem_append_left _ (List.mem_append_left _ (List.mem_append_left _ (List.mem_append_left _ (List.mem_append_right _ (List.mem_append_left _ lm1))))))))))), List.forall_mem_cons.mpr ⟨(List.mem_cons_of_mem _ (List.mem_append_left _ (List.mem_append_left _ (List.mem_append_left _ (List.mem_append_left _ (List.mem_append_left _ (List.mem_append_left _ (List.mem_append_left _ (List.mem_append_left _ (List.mem_append_right _ (List.mem_append_left _ lm2))))))))))), List.forall_mem_cons.mpr ⟨(List.mem_cons_of_mem _ (List.mem_append_left _ (List.mem_append_left _ (List.mem_append_left _ (List.mem_append_left _ (List.mem_append_left _ (List.mem_append_left _ (List.mem_append_left _ (List.mem_append_left _ (List.mem_append_right _ (List.mem_append_left _ lm0))))))))))), List.forall_mem_cons.mpr ⟨(List.mem_cons_of_mem _ (List.mem_append_left _ (List.mem_append_left _ (List.mem_append_left _ (List.mem_append_left _ (List.mem_append_left _ (List.mem_append_left _ (List.mem_append_left _ (List.mem_append_left _ (List.mem_append_left _ lm23)))))))))), List.forall_mem_cons.mpr ⟨(List.mem_cons_of_mem _ (List.mem_append_left _ (List.mem_append_left _ (List.mem_append_left _ (List.mem_append_left _ (List.mem_append_left _ (List.mem_append_left _ (List.mem_append_left _ (List.mem_append_left _ (List.mem_append_right _ (List.mem_append_right _ lm15))))))))))), List.forall_mem_cons.mpr ⟨(List.mem_cons_of_mem _ (List.mem_append_left _ (List.mem_append_left _ (List.mem_append_left _ (List.mem_append_left _ (List.mem_append_left _ (List.mem_append_left _ (List.mem_append_left _ (List.mem_append_left _ (List.mem_append_right _ (List.mem_append_right _ lm6))))))))))), List.forall_mem_cons.mpr ⟨(List.mem_cons_of_mem _ (List.mem_append_left _ (List.mem_append_left _ (List.mem_append_left _ (List.mem_append_left _ (List.mem_append_left _ (List.mem_append_left _ (List.mem_append_left _ (List.mem_append_left _ (List.mem_append_right _ (List.mem_append_right _ lm7))))))))))), List.forall_mem_cons.mpr ⟨(List.mem_cons_of_mem _ (List.mem_append_left _ (List.mem_append_left _ (List.mem_append_left _ (List.mem_append_left _ (List.mem_append_left _ (List.mem_append_left _ (List.mem_append_left _ (List.mem_append_left _ (List.mem_append_left _ lm16)))))))))), List.forall_mem_cons.mpr ⟨(List.mem_cons_of_mem _ (List.mem_append_left _ (List.mem_append_left _ (List.mem_append_left _ (List.mem_append_left _ (List.mem_append_left _ (List.mem_append_left _ (List.mem_append_left _ (List.mem_append_left _ (List.mem_append_right _ (List.mem_append_right _ lm8))))))))))), List.forall_mem_cons.mpr ⟨(List.mem_cons_of_mem _ (List.mem_append_left _ (List.mem_append_left _ (List.mem_append_left _ (List.mem_append_left _ (List.mem_append_left _ (List.mem_append_left _ (List.mem_append_left _ (List.mem_append_left _ (List.mem_append_right _ (List.mem_append_right _ lm9))))))))))), List.forall_mem_cons.mpr ⟨(List.mem_cons_of_mem _ (List.mem_append_left _ (List.mem_append_left _ (List.mem_append_left _ (List.mem_append_left _ (List.mem_append_left _ (List.mem_append_left _ (List.mem_append_left _ (List.mem_append_left _ (List.mem_append_right _ (List.mem_append_right _ lm10))))))))))), (fun _ h => absurd h List.not_mem_nil)⟩⟩⟩⟩⟩⟩⟩⟩⟩⟩⟩⟩⟩, (fun _ h => (List.mem_cons_of_mem _ (List.mem_append_left _ (List.mem_append_left _ (List.mem_append_left _ (List.mem_append_left _ (List.mem_append_left _ (List.mem_append_left _ (List.mem_append_right _ h)))))))))⟩, (fun _ h => (List.mem_cons_of_mem _ (List.mem_append_left _ (List.mem_append_left _ (List.mem_append_left _ (List.mem_append_right _ h))))))⟩⟩) gw_X7_endIfNothingIsLeft)
theorem gX11_start_X9_holds : GoodIn wsX11_start (wsV RX11 146 RX9 yX9_holds wsX9_holds) := goodIn_app (goodIn_sub (List.forall_mem_cons.mpr ⟨(List.mem_cons_of_mem _ (List.mem_append_left _ (List.mem_append_left _ (List.mem_append_left _ (List.mem_append_left _ (List.mem_append_left _ (List.mem_append_left _ (List.mem_append_left _ (List.mem_append_left _ (List.mem_append_right _ (List.mem_append_left _ lm3))))))))))), List.forall_mem_cons.mpr ⟨(List.mem_cons_of_mem _ (List.mem_append_left _ (List.mem_append_left _ (List.mem_append_left _ (List.mem_append_left _ (List.mem_append_left _ (List.mem_append_left _ (List.mem_append_left _ (List.mem_append_left _ (List.mem_append_right _ (List.mem_append_left _ lm4))))))))))), List.forall_mem_cons.mpr ⟨(List.mem_cons_of_mem _ (List.mem_append_left _ (List.mem_append_left _ (List.mem_append_left _ (List.mem_append_left _ (List.mem_append_left _ (List.mem_append_left _ (List.mem_append_left _ (List.mem_append_left _ (List.mem_append_right _ (List.mem_append_left _ lm5))))))))))), List.forall_mem_cons.mpr ⟨(List.mem_cons_of_mem _ (List.mem_append_left _ (List.mem_append_left _ (List.mem_append_left _ (List.mem_append_left _ (List.mem_append_left _ (List.mem_append_left _ (List.mem_append_left _ (List.mem_append_left _ (List.mem_append_right _ (List.mem_append_left _ lm6))))))))))), (fun _ h => absurd h List.not_mem_nil)⟩⟩⟩⟩) (by decide +kernel)) (goodIn_sub (by unfold wsX9_holds; exact List.forall_mem_cons.mpr ⟨(List.mem_cons_of_mem _ (List.mem_append_left _ (List.mem_append_left _ (List.mem_append_left _ (List.mem_append_left _ (List.mem_append_left _ (List.mem_append_left _ (List.mem_append_left _ (List.mem_append_left _ (List.mem_append_right _ (List.mem_append_left _ lm7))))))))))), List.forall_mem_append.mpr ⟨List.forall_mem_cons.mpr ⟨(List.mem_cons_of_mem _ (List.mem_append_left _ (List.mem_append_left _ (List.mem_append_left _ (List.mem_append_left _ (List.mem_append_left _ (List.mem_append_left _ (List.mem_append_left _ (List.mem_append_left _ (List.mem_append_right _ (List.mem_append_left _ lm8))))))))))), List.forall_mem_cons.mpr ⟨(List.mem_cons_of_mem _ (List.mem_append_left _ (List.mem_append_left _ (List.mem_append_left _ (List.mem_append_left _ (List.mem_append_left _ (List.mem_append_left _ (List.mem_append_left _ (List.mem_append_left _ (List.mem_append_right _ (List.mem_append_left _ lm9))))))))))), List.forall_mem_cons.mpr ⟨(List.mem_cons_of_mem _ (List.mem_append_left _ (List.mem_append_left _ (List.mem_append_left _ (List.mem_append_left _ (List.mem_append_left _ (List.mem_append_left _ (List.mem_append_left _ (List.mem_append_left _ (List.mem_append_right _ (List.mem_append_left _ lm10))))))))))), List.forall_mem_cons.mpr ⟨(List.mem_cons_of_mem _ (List.mem_append_left _ (List.mem_append_left _ (List.mem_append_left _ (List.mem_append_left _ (List.mem_append_left _ (List.mem_append_left _ (List.mem_append_left _ (List.mem_append_left _ (List.mem_append_right _ (List.mem_append_left _ lm11))))))))))), List.forall_mem_cons.mpr ⟨(List.mem_cons_of_mem _ (List.mem_append_left _ (List.mem_append_left _ (List.mem_append_left _ (List.mem_append_left _ (List.mem_append_left _ (List.mem_append_left _ (List.mem_append_left _ (List.mem_append_left _ (List.mem_append_right _ (List.mem_append_left _ lm12))))))))))), List.forall_mem_cons.mpr ⟨(List.mem_cons_of_mem _ (List.mem_append_left _ (List.mem_append_left _ (List.mem_append_left _ (List.mem_append_left _ (List.mem_append_left _ (List.mem_append_left _ (List.mem_append_left _ (List.mem_append_left _ (List.mem_append_right _ (List.mem_append_left _ lm13))))))))))), List.forall_mem_cons.mpr ⟨(List.mem_cons_of_mem _ (List.mem_append_left _ (List.mem_append_left _ (List.mem_append_left _ (List.mem_append_left _ (List.mem_append_left _ (List.mem_append_left _ (List.mem_append_left _ (List.mem_append_left _ (List.mem_append_right _ (List.mem_append_left _ lm6))))))))))), List.forall_mem_cons.mpr ⟨(List.mem_cons_of_mem _ (List.mem_append_left _ (List.mem_append_left _ (List.mem_append_left _ (List.mem_append_left _ (List.mem_append_left _ (List.mem_append_left _ (List.mem_append_left _ (List.mem_append_left _ (List.mem_append_right _ (List.mem_append_left _ lm14))))))))))), List.forall_mem_cons.mpr ⟨(List.mem_cons_of_mem _ (List.mem_append_left _ (List.mem_append_left _ (List.mem_append_left _ (List.mem_append_left _ (List.mem_append_left _ (List.mem_append_left _ (List.mem_append_left _ (List.mem_append_left _ (List.mem_append_right _ (List.mem_append_left _ lm15))))))))))), List.forall_mem_cons.mpr ⟨(List.mem_cons_of_mem _ (List.mem_append_left _ (List.mem_append_left _ (List.mem_append_left _ (List.mem_append_left _ (List.mem_append_left _ (List.mem_append_left _ (List.mem_append_left _ (List.mem_append_left _ (List.mem_append_right _ (List.mem_append_left _ lm16))))))))))), List.forall_mem_cons.mpr ⟨(List.mem_cons_of_mem _ (List.mem_append_left _ (List.mem_append_left _ (List.mem_append_left _ (List.mem_append_left _ (List.mem_append_left _ (List.mem_append_left _ (List.mem_append_left _ (List.mem_append_left _ (List.mem_append_right _ (List.mem_append_left _ lm17))))))))))), List.forall_mem_cons.mpr ⟨(List.mem_cons_of_mem _ (List.mem_append_left _ (List.mem_append_left _ (List.mem_append_left _ (List.mem_append_left _ (List.mem_append_left _ (List.mem_append_left _ (List.mem_append_left _ (List.mem_append_left _ (List.mem_append_right _ (List.mem_append_left _ lm18))))))))))), List.forall_mem_cons.mpr ⟨(List.mem_cons_of_mem _ (List.mem_append_left _ (List.mem_append_left _ (List.mem_append_left _ (List.mem_append_left _ (List.mem_append_left _ (List.mem_append_left _ (List.mem_append_left _ (List.mem_append_left _ (List.mem_append_right _ (List.mem_append_left _ lm19))))))))))), List.forall_mem_cons.mpr ⟨(List.mem_cons_of_mem _ (List.mem_append_left _ (List.mem_append_left _ (List.mem_append_left _ (List.mem_append_left _ (List.mem_append_left _ (List.mem_append_left _ (List.mem_append_left _ (List.mem_append_left _ (List.mem_append_right _ (List.mem_append_left _ lm20))))))))))), List.forall_mem_cons.mpr ⟨(List.mem_cons_of_mem _ (List.mem_append_left _ (List.mem_append_left _ (List.mem_append_left _ (List.mem_append_left _ (List.mem_append_left _ (List.mem_append_left _ (List.mem_append_left _ (List.mem_append_left _ (List.mem_append_right _ (List.mem_append_left _ lm21))))))))))), List.forall_mem_cons.mpr ⟨(List.mem_cons_of_mem _ (List.mem_append_left _ (List.mem_append_left _ (List.mem_append_left _ (List.mem_append_left _ (List.mem_append_left _ (List.mem_append_left _ (List.mem_append_left _ (List.mem_append_left _ (List.mem_append_right _ (List.mem_append_left _ lm22))))))))))), List.forall_mem_cons.mpr ⟨(List.mem_cons_of_mem _ (List.mem_append_left _ (List.mem_append_left _ (List.mem_append_left _ (List.mem_append_left _ (List.mem_append_left _ (List.mem_append_left _ (List.mem_append_left _ (List.mem_append_left _ (List.mem_append_right _ (List.mem_append_left _ lm23))))))))))), (fun _ h => absurd h List.not_mem_nil)⟩⟩⟩⟩⟩⟩⟩⟩⟩⟩⟩⟩⟩⟩⟩⟩⟩, (fun _ h => (List.mem_cons_of_mem _ (List.mem_append_left _ (List.mem_append_left _ (List.mem_append_right _ h)))))⟩⟩) gw_X9_holds)
theorem gw_X7_enqueue : wsX7_enqueue.all goodWord = true := by decide +kernel
theorem gX11_start_X7_enqueue : GoodIn wsX11_start (wsV RX11 229 RX7 yX7_enqueue wsX7_enqueue) := goodIn_app (goodIn_sub (List.forall_mem_cons.mpr ⟨(List.mem_cons_of_mem _ (List.mem_append_left _ (List.mem_append_left _ (List.mem_append_left _ (List.mem_append_left _ (List.mem_append_left _ (List.mem_append_left _ (List.mem_append_left _ (List.mem_append_left _ (List.mem_append_right _ (List.mem_append_right _ lm0))))))))))), List.forall_mem_cons.mpr ⟨(List.mem_cons_of_mem _ (List.mem_append_left _ (List.mem_append_left _ (List.mem_append_left _ (List.mem_append_left _ (List.mem_append_left _ (List.mem_append_left _ (List.mem_append_left _ (List.mem_append_left _ (List.mem_append_right _ (List.mem_append_right _ lm1))))))))))), List.forall_mem_cons.mpr ⟨(List.mem_cons_of_mem _ (List.mem_append_left _ (List.mem_append_left _ (List.mem_append_left _ (List.mem_append_left _ (List.mem_append_left _ (List.mem_append_left _ (List.mem_append_left _ (List.mem_append_left _ (List.mem_append_right _ (List.mem_append_right _ lm2))))))))))), List.forall_mem_cons.mpr ⟨(List.mem_cons_of_mem _ (List.mem_append_left _ (List.mem_append_left _ (List.mem_append_left _ (List.mem_append_left _ (List.mem_append_left _ (List.mem_append_left _ (List.mem_append_left _ (List.mem_append_left _ (List.mem_append_left _ lm16)))))))))), (fun _ h => absurd h List.not_mem_nil)⟩⟩⟩⟩) (by decide +kernel)) (goodIn_sub (by unfold wsX7_enqueue; exact List.forall_mem_cons.mpr ⟨(List.mem_cons_of_mem _ (List.mem_append_left _ (List.mem_append_left _ (List.mem_append_left _ (List.mem_append_left _ (List.mem_append_left _ (List.mem_append_left _ (List.mem_append_left _ (List.mem_append_left _ (List.mem_append_right _ (List.mem_append_right _ lm3))))))))))), List.forall_mem_append.mpr ⟨List.forall_mem_cons.mpr ⟨(List.mem_cons_of_mem _ (List.mem_append_left _ (List.mem_append_left _ (List.mem_append_left _ (List.mem_append_left _ (List.mem_append_left _ (List.mem_append_left _ (List.mem_append_left _ (List.mem_append_left _ (List.mem_append_left _ lm20)))))))))), List.forall_mem_cons.mpr ⟨(List.mem_cons_of_mem _ (List.mem_append_left _ (List.mem_append_left _ (List.mem_append_left _ (List.mem_append_left _ (List.mem_append_left _ (List.mem_append_left _ (List.mem_append_left _ (List.mem_append_left _ (List.mem_append_right _ (List.mem_append_right _ lm4))))))))))), (fun _ h => absurd h List.not_mem_nil)⟩⟩, (fun _ h => (List.mem_cons_of_mem _ (List.mem_append_left _ (List.mem_append_left _ (List.mem_append_left _ (List.mem_append_left _ (List.mem_append_left _ (List.mem_append_left _ (List.mem_append_right _ h)))))))))⟩⟩) gw_X7_enqueue)
set_option maxHeartbeats 2000000 in
set_option maxRecDepth 100000 in
theorem k_filter (l : Launch) (D : va_G) (g : Nat → Nat) (ka : Nat → ClassId) (ad : Nat → Nat) (i : Nat → Nat → Int32) (r : Nat → Nat → Nat) (L : Nat → Nat → Int64) (d : Nat → Nat → UInt64) (a9 : Nat) (b9 : Nat) (hO : OkI i) (hR : RS r) (sz : Nat) (hst : l.stackTraces = false) (hPC : PC i r) (ha9 : 9 ≤ a9 ∧ a9 < 11) (hb9 : 9 ≤ b9 ∧ b9 < 11) (hab : a9 ≠ b9) (hr12 : r 0 12 = 357 + 2 * a9) (hr13 : r 0 13 = 357 + 2 * b9) (hTO : tgO i a9) : vx_Met l yX11_filter wsX11_filter ({ frames := 125, cells := 1, slots := 6, locals := 4947 }) (va_Pc [.ref (g 0)] (sj_B D (hwc g ka i r L d) (hT ka) sz (gx ad (va_A (hwc g ka i r L d) sz)))) (sj_Qi (S := (Nat → Nat → Int32) × (Nat → Nat → Nat)) D (fun v u => OkI u.1 ∧ (∀ a, ¬ (a = 1 ∨ (375 ≤ a ∧ a < 379)) → u.1 a = i a) ∧ RS u.2 ∧ (∀ a b, ¬ (a = 0 ∧ (b = 12 ∨ b = 13)) → u.2 a b = r a b) ∧ ((i 23 8).toInt = 0 ∧ (u.1 1 1).toInt = 0) ∧ (ftC i u.1 r u.2 a9 b9)) (fun u => hwc g ka u.1 u.2 L d) (fun _ => []) (va_A (hwc g ka i r L d) sz)) (x_XC (S := (Nat → Nat → Int32) × (Nat → Nat → Nat)) D (fun (E : String) u => OkI u.1 ∧ (∀ a, ¬ (a = 1 ∨ (375 ≤ a ∧ a < 379)) → u.1 a = i a) ∧ RS u.2 ∧ (∀ a b, ¬ (a = 0 ∧ (b = 12 ∨ b = 13)) → u.2 a b = r a b) ∧ (((i 23 8).toInt = 1 ∧ u.1 = i ∧ u.2 = r) ∨ ((i 23 8).toInt = 0 ∧ (u.1 1 1).toInt = 0 ∧ ftC i u.1 r u.2 a9 b9))) (fun u => hwc g ka u.1 u.2 L d) (va_A (hwc g ka i r L d) sz)) 1 6 (va_A (hwc g ka i r L d) sz) := by
  refine x_vmet (Ex := gx ad) (XC := x_XC (S := (Nat → Nat → Int32) × (Nat → Nat → Nat)) D (fun (E : String) u => OkI u.1 ∧ (∀ a, ¬ (a = 1 ∨ (375 ≤ a ∧ a < 379)) → u.1 a = i a) ∧ RS u.2 ∧ (∀ a b, ¬ (a = 0 ∧ (b = 12 ∨ b = 13)) → u.2 a b = r a b) ∧ (((i 23 8).toInt = 1 ∧ u.1 = i ∧ u.2 = r) ∨ ((i 23 8).toInt = 0 ∧ (u.1 1 1).toInt = 0 ∧ ftC i u.1 r u.2 a9 b9))) (fun u => hwc g ka u.1 u.2 L d)) (cc := cX11_filter) (maxL := 5) (ret := (some .int)) (by decide) rfl (Nat.le_of_ble_eq_true rfl) ?_
  intro p e s m below meth c A ls hx hb hr hml hts hown hlocks hnt hA hS hH hK hE hl
  have hown : s.vm.findClass RX11 = some m.cls := hown
  have in0 : ∀ w ∈ wsX00, w ∈ wsX11_filter := (fun _ h => (List.mem_cons_of_mem _ (List.mem_append_left _ (List.mem_append_left _ (List.mem_append_left _ (List.mem_append_right _ h))))))
  have in1 : ∀ w ∈ wsX10, w ∈ wsX11_filter := (fun _ h => (List.mem_cons_of_mem _ (List.mem_append_left _ (List.mem_append_left _ (List.mem_append_left _ (List.mem_append_left _ (List.mem_append_right _ h)))))))
  have in3 : ∀ w ∈ wsX30, w ∈ wsX11_filter := (fun _ h => (List.mem_cons_of_mem _ (List.mem_append_left _ (List.mem_append_left _ (List.mem_append_left _ (List.mem_append_left _ (List.mem_append_left _ (List.mem_append_right _ h))))))))
  have in7 : ∀ w ∈ wsX70, w ∈ wsX11_filter := (fun _ h => (List.mem_cons_of_mem _ (List.mem_append_left _ (List.mem_append_left _ (List.mem_append_left _ (List.mem_append_left _ (List.mem_append_left _ (List.mem_append_left _ (List.mem_append_right _ h)))))))))
  have in11 : ∀ w ∈ wsX110, w ∈ wsX11_filter := (fun _ h => (List.mem_cons_of_mem _ (List.mem_append_left _ (List.mem_append_left _ (List.mem_append_left _ (List.mem_append_left _ (List.mem_append_left _ (List.mem_append_left _ (List.mem_append_left _ (List.mem_append_right _ h))))))))))
  have wd0 := hts (.fieldLink RX11 44 "StoryDesk" "run" "LStoryDesk$Run;") (List.mem_cons_of_mem _ (List.mem_append_left _ (List.mem_append_left _ (List.mem_append_left _ (List.mem_append_left _ (List.mem_append_left _ (List.mem_append_left _ (List.mem_append_left _ (List.mem_append_left _ (List.mem_append_left _ lm4))))))))))
  have wd1 := hts (.fieldLink RX11 88 "StoryDesk$Run" "underWay" "Z") (List.mem_cons_of_mem _ (List.mem_append_left _ (List.mem_append_left _ (List.mem_append_left _ (List.mem_append_left _ (List.mem_append_left _ (List.mem_append_left _ (List.mem_append_left _ (List.mem_append_left _ (List.mem_append_left _ lm5))))))))))
  have wd2 := hts (.fieldLink RX11 77 "StoryDesk" "filterToTry" "LStoryDesk$TagExpression;") (List.mem_cons_of_mem _ (List.mem_append_left _ (List.mem_append_left _ (List.mem_append_left _ (List.mem_append_left _ (List.mem_append_left _ (List.mem_append_left _ (List.mem_append_left _ (List.mem_append_left _ (List.mem_append_left _ lm6))))))))))
  have wd3 := hts (.fieldLink RX11 14 "StoryDesk" "text" "LStoryDesk$Letters;") (List.mem_cons_of_mem _ (List.mem_append_left _ (List.mem_append_left _ (List.mem_append_left _ (List.mem_append_left _ (List.mem_append_left _ (List.mem_append_left _ (List.mem_append_left _ (List.mem_append_left _ (List.mem_append_left _ lm7))))))))))
  have wd4 := hts (.fieldLink RX11 80 "StoryDesk$Letters" "length" "I") (List.mem_cons_of_mem _ (List.mem_append_left _ (List.mem_append_left _ (List.mem_append_left _ (List.mem_append_left _ (List.mem_append_left _ (List.mem_append_left _ (List.mem_append_left _ (List.mem_append_left _ (List.mem_append_left _ lm8))))))))))
  have wd5 := hts (.fieldLink RX11 73 "StoryDesk" "filterInUse" "LStoryDesk$TagExpression;") (List.mem_cons_of_mem _ (List.mem_append_left _ (List.mem_append_left _ (List.mem_append_left _ (List.mem_append_left _ (List.mem_append_left _ (List.mem_append_left _ (List.mem_append_left _ (List.mem_append_left _ (List.mem_append_left _ lm9))))))))))
  have wd6 := hts (.fieldLink RX11 30 "StoryDesk" "cases" "LStoryDesk$Cases;") (List.mem_cons_of_mem _ (List.mem_append_left _ (List.mem_append_left _ (List.mem_append_left _ (List.mem_append_left _ (List.mem_append_left _ (List.mem_append_left _ (List.mem_append_left _ (List.mem_append_left _ (List.mem_append_left _ lm10))))))))))
  have wd7 := hts (.fieldLink RX11 134 "StoryDesk$Cases" "count" "I") (List.mem_cons_of_mem _ (List.mem_append_left _ (List.mem_append_left _ (List.mem_append_left _ (List.mem_append_left _ (List.mem_append_left _ (List.mem_append_left _ (List.mem_append_left _ (List.mem_append_left _ (List.mem_append_left _ lm11))))))))))
  have wd8 := hts (.fieldLink RX11 137 "StoryDesk$Cases" "all" "[LStoryDesk$Case;") (List.mem_cons_of_mem _ (List.mem_append_left _ (List.mem_append_left _ (List.mem_append_left _ (List.mem_append_left _ (List.mem_append_left _ (List.mem_append_left _ (List.mem_append_left _ (List.mem_append_left _ (List.mem_append_left _ lm12))))))))))
  have wd9 := hts (.fieldLink RX11 141 "StoryDesk$Case" "tags" "I") (List.mem_cons_of_mem _ (List.mem_append_left _ (List.mem_append_left _ (List.mem_append_left _ (List.mem_append_left _ (List.mem_append_left _ (List.mem_append_left _ (List.mem_append_left _ (List.mem_append_left _ (List.mem_append_left _ lm13))))))))))
  have wd10 := hts (.classLink RX11 124 "java/lang/IllegalArgumentException") (List.mem_cons_of_mem _ (List.mem_append_left _ (List.mem_append_left _ (List.mem_append_left _ (List.mem_append_left _ (List.mem_append_left _ (List.mem_append_left _ (List.mem_append_left _ (List.mem_append_left _ (List.mem_append_left _ lm2))))))))))
  have wd11 := hts (.initialized "java/lang/IllegalArgumentException") (List.mem_cons_of_mem _ (List.mem_append_left _ (List.mem_append_left _ (List.mem_append_left _ (List.mem_append_left _ (List.mem_append_left _ (List.mem_append_left _ (List.mem_append_left _ (List.mem_append_left _ (List.mem_append_left _ lm3))))))))))
  have wd12 := hts (.classLink RX11 92 "java/lang/IllegalStateException") (List.mem_cons_of_mem _ (List.mem_append_left _ (List.mem_append_left _ (List.mem_append_left _ (List.mem_append_left _ (List.mem_append_left _ (List.mem_append_left _ (List.mem_append_left _ (List.mem_append_left _ (List.mem_append_left _ lm0))))))))))
  have wd13 := hts (.initialized "java/lang/IllegalStateException") (List.mem_cons_of_mem _ (List.mem_append_left _ (List.mem_append_left _ (List.mem_append_left _ (List.mem_append_left _ (List.mem_append_left _ (List.mem_append_left _ (List.mem_append_left _ (List.mem_append_left _ (List.mem_append_left _ lm1))))))))))
  have thr_94 : ∀ w ∈ (vx_at0 RX11 94 "java/lang/IllegalStateException" ["java/lang/RuntimeException", "java/lang/Exception"]).filter goodWord, w ∈ wsX11_filter := by decide +kernel
  have thr_126 : ∀ w ∈ (vx_at0 RX11 126 "java/lang/IllegalArgumentException" ["java/lang/RuntimeException", "java/lang/Exception"]).filter goodWord, w ∈ wsX11_filter := by decide +kernel
  have hl : lv_has ls 5 [(0, .ref (g 0))] := hl
  have hK : va_K D vwCl (hT ka) s := hK
  have hbu8 : (0 : Int) ≤ (i 23 8).toInt ∧ (i 23 8).toInt ≤ 1 := hO 23 8
  have hb13 : (0 : Int) ≤ (i 13 4).toInt ∧ (i 13 4).toInt ≤ 24 := hO 13 4
  refine lv_aload_n hx hb dX11_filter_0 rfl (lv_at hl 0 rfl) ?_
  refine h_getr (ci := 11) (C := RX11) (F := TX11) (N := 14) hx hb hts in11 hown hK hH (by decide) (rfl : kd 0 = 11) (by decide) rfl 4 (by decide) wd0 (fun _ h9 => h9) (by decide) rfl (t := 23) (hR 0 4 rfl) (by decide) dX11_filter_1 ?_
  have bx_1 : (0 : Int) ≤ (i 23 8).toInt ∧ (i 23 8).toInt ≤ 1 := hO 23 8
  refine h_geti (ci := 7) (C := RX7) (F := TX7) (N := 11) hx hb hts in7 hown hK hH (by decide) (rfl : kd 23 = 7) (by decide) rfl 8 (by decide) wd1 (fun _ h9 => h9) (by decide) rfl dX11_filter_4 ?_
  refine lv_if_eq (tgt := 18) hx hb dX11_filter_7 (by decide) (fun c_2 => ?_) (fun c_2 => ?_)
  · skip
    have h_3 := s_eq (rfl : (i 23 8).toInt = _) (show (0 : Int32).toInt = 0 from rfl) c_2
    refine lv_aload_n hx hb dX11_filter_18 rfl (lv_at hl 0 rfl) ?_
    refine h_getr (ci := 11) (C := RX11) (F := TX11) (N := 14) hx hb hts in11 hown hK hH (by decide) (rfl : kd 0 = 11) (by decide) rfl 13 (by decide) wd2 (fun _ h9 => h9) (by decide) rfl (t := (357 + 2 * b9)) hr13 (lt_nK (by omega)) dX11_filter_19 ?_
    refine lv_aload_n hx hb dX11_filter_22 rfl (lv_at hl 0 rfl) ?_
    refine h_getr (ci := 11) (C := RX11) (F := TX11) (N := 14) hx hb hts in11 hown hK hH (by decide) (rfl : kd 0 = 11) (by decide) rfl 0 (by decide) wd3 (fun _ h9 => h9) (by decide) rfl (t := 1) (hR 0 0 rfl) (by decide) dX11_filter_23 ?_
    refine x_calli (va_runV (As := [.ref (g 1)]) (rest := []) ⟨hx, hb, hml, hown, hts⟩ (k_tagTake l D g ka ad i r L d b9 hO hR s.heap.size (by first | omega | decide)) (cwV 1 hts gX11_filter_X9_take rfl rfl rfl (by decide +kernel) ⟨(Nat.le_of_ble_eq_true rfl), (Nat.le_of_ble_eq_true rfl)⟩) (x_preV (q := (RX9, TX9, 4)) hH hK (q_obj (lt_nK (by omega)) (kd_tag (show b9 < 11 by omega)) (by decide)) rfl gxb (gxw hE hS (x_F hH hS hA))) rfl rfl hl.1 rfl (lv_room (Nat.le_of_ble_eq_true rfl)) dX11_filter_26 ⟨(Nat.le_of_ble_eq_true rfl), (Nat.le_of_ble_eq_true rfl)⟩) hH hS hA rfl rfl (fun r_4 im_6 H locs hw_5 hH hS => ?_)
    have hH : sj_H D A (hwc g ka im_6 r L d) H := hH
    obtain ⟨hO_8, hfr_7, hr_9, hx2_10, hx2_11, hx2_12⟩ := hw_5
    have hr_9 : (0 : Int) ≤ r_4.toInt ∧ r_4.toInt ≤ 1 := hr_9
    have hb9 : (0 : Int) ≤ (im_6 (357 + 2 * b9) 1).toInt := by have h9 := hO_8 (357 + 2 * b9) 1; rw [bx_tag (by omega) 1] at h9; exact h9.1
    have hct := cTk_v (i := i) (u := im_6) (v := r_4.toInt) hb9 hx2_10 hx2_11 hx2_12
    refine lv_istore_n (lv' := [(1, .int r_4), (0, .ref (g 0))]) hx hb dX11_filter_29 rfl hl (by decide) rfl (fun ls hl => ?_)
    refine lv_aload_n hx hb dX11_filter_30 rfl (lv_at hl 1 rfl) ?_
    refine h_getr (ci := 11) (C := RX11) (F := TX11) (N := 14) hx hb hts in11 hown hK hH (by decide) (rfl : kd 0 = 11) (by decide) rfl 0 (by decide) wd3 (fun _ h9 => h9) (by decide) rfl (t := 1) (hR 0 0 rfl) (by decide) dX11_filter_31 ?_
    refine lv_iconst (v := 0) hx hb dX11_filter_34 (by decide) ?_
    have hO_13 := okp hO_8 (n := 1) (k := 1) (v := 0) (show (0 : Int) ≤ (0 : Int32).toInt ∧ (0 : Int32).toInt ≤ 480 from ⟨by decide, by decide⟩)
    refine h_puti (ty := .int) (ci := 3) (C := RX3) (F := TX3) (N := 2) hx hb hts in3 tyX3 tyX3_ok nmX3 hown hK hH hS (by decide) (rfl : kd 1 = 3) (by decide) rfl 1 (by decide) wd4 (fun _ h9 => h9) rfl (by decide +kernel) rfl rfl (by decide) rfl dX11_filter_35 (fun H locs hH hS => ?_)
    refine lv_iload_n hx hb dX11_filter_38 rfl (lv_at hl 0 rfl) ?_
    refine lv_if_ne (tgt := 50) hx hb dX11_filter_39 (by decide) (fun c_14 => ?_) (fun c_14 => ?_)
    · skip
      have h_15 := s_ne (rfl : r_4.toInt = _) (show (0 : Int32).toInt = 0 from rfl) c_14
      have hcy0 := hct.resolve_right (fun q => by have := q.1; omega)
      refine lv_aload_n hx hb dX11_filter_50 rfl (lv_at hl 1 rfl) ?_
      refine h_getr (ci := 11) (C := RX11) (F := TX11) (N := 14) hx hb hts in11 hown hK hH (by decide) (rfl : kd 0 = 11) (by decide) rfl 12 (by decide) wd5 (fun _ h9 => h9) (by decide) rfl (t := (357 + 2 * a9)) hr12 (lt_nK (by omega)) dX11_filter_51 ?_
      refine lv_astore_n (lv' := [(2, .ref (g (357 + 2 * a9))), (1, .int r_4), (0, .ref (g 0))]) hx hb dX11_filter_54 rfl hl (by decide) rfl (fun ls hl => ?_)
      refine lv_aload_n hx hb dX11_filter_55 rfl (lv_at hl 2 rfl) ?_
      refine lv_aload_n hx hb dX11_filter_56 rfl (lv_at hl 2 rfl) ?_
      refine h_getr (ci := 11) (C := RX11) (F := TX11) (N := 14) hx hb hts in11 hown hK hH (by decide) (rfl : kd 0 = 11) (by decide) rfl 13 (by decide) wd2 (fun _ h9 => h9) (by decide) rfl (t := (357 + 2 * b9)) hr13 (lt_nK (by omega)) dX11_filter_57 ?_
      refine h_putr (t := (357 + 2 * b9)) (v := .ref (g (357 + 2 * b9))) (ty := (.object "StoryDesk$TagExpression")) (ci := 11) (C := RX11) (F := TX11) (N := 14) hx hb hts in11 tyX11 tyX11_ok nmX11 hown hK hH hS (by decide) (rfl : kd 0 = 11) (by decide) rfl 12 (by decide) wd5 (fun _ h9 => h9) rfl (rq_some (lt_nK (by omega))) (by decide +kernel) rfl rfl (by decide) rfl dX11_filter_60 (fun H locs hH hS => ?_)
      refine lv_aload_n hx hb dX11_filter_63 rfl (lv_at hl 2 rfl) ?_
      refine lv_aload_n hx hb dX11_filter_64 rfl (lv_at hl 0 rfl) ?_
      refine h_putr (t := (357 + 2 * a9)) (v := .ref (g (357 + 2 * a9))) (ty := (.object "StoryDesk$TagExpression")) (ci := 11) (C := RX11) (F := TX11) (N := 14) hx hb hts in11 tyX11 tyX11_ok nmX11 hown hK hH hS (by decide) (rfl : kd 0 = 11) (by decide) rfl 13 (by decide) wd2 (fun _ h9 => h9) rfl (rq_some (lt_nK (by omega))) (by decide +kernel) rfl rfl (by decide) rfl dX11_filter_65 (fun H locs hH hS => ?_)
      refine lv_iconst (v := 0) hx hb dX11_filter_68 (by decide) ?_
      refine lv_istore_n (lv' := [(3, .int 0), (2, .ref (g (357 + 2 * a9))), (1, .int r_4), (0, .ref (g 0))]) hx hb dX11_filter_69 rfl hl (by decide) rfl (fun ls hl => ?_)
      refine lv_iconst (v := 0) hx hb dX11_filter_70 (by decide) ?_
      refine lv_istore (lv' := [(4, .int 0), (3, .int 0), (2, .ref (g (357 + 2 * a9))), (1, .int r_4), (0, .ref (g 0))]) hx hb dX11_filter_71 hl (by decide) rfl (fun ls hl => ?_)
      -- loop at 73
      have lp_16 : ∀ (fuel_lp_16 : Nat) (f : Int32) (t : Int32) (j1 : Nat → Nat → Int32) (H : Heap) (locs : List Loc) (ls : Array Slot), (24 - f.toInt).toNat < fuel_lp_16 → (0 : Int) ≤ f.toInt ∧ f.toInt ≤ 24 → (0 : Int) ≤ t.toInt ∧ t.toInt ≤ 24 → t.toInt ≤ f.toInt → tgE im_6 j1 → OkI j1 → (∀ a, ¬ (a = 357 + 2 * b9) → j1 a = (up2 im_6 1 1 0) a) → lv_has ls 5 [(4, .int f), (3, .int t), (2, .ref (g (357 + 2 * a9))), (1, .int r_4), (0, .ref (g 0))] → sj_H D A (hwc g ka j1 (upr (upr r 0 12 (357 + 2 * b9)) 0 13 (357 + 2 * a9)) L d) H → va_S A s.heap H locs → W p l e (headSpec wsX11_filter ({ frames := 125, cells := 1, slots := 6, locals := 4947 })).room s m ([.ref (g 0)] : List Value).toArray below meth c H locs 0 0 (vx_MQ below (sj_Qi (S := (Nat → Nat → Int32) × (Nat → Nat → Nat)) D (fun v u => OkI u.1 ∧ (∀ a, ¬ (a = 1 ∨ (375 ≤ a ∧ a < 379)) → u.1 a = i a) ∧ RS u.2 ∧ (∀ a b, ¬ (a = 0 ∧ (b = 12 ∨ b = 13)) → u.2 a b = r a b) ∧ ((i 23 8).toInt = 0 ∧ (u.1 1 1).toInt = 0) ∧ (ftC i u.1 r u.2 a9 b9)) (fun u => hwc g ka u.1 u.2 L d) (fun _ => []) A) (x_XC (S := (Nat → Nat → Int32) × (Nat → Nat → Nat)) D (fun (E : String) u => OkI u.1 ∧ (∀ a, ¬ (a = 1 ∨ (375 ≤ a ∧ a < 379)) → u.1 a = i a) ∧ RS u.2 ∧ (∀ a b, ¬ (a = 0 ∧ (b = 12 ∨ b = 13)) → u.2 a b = r a b) ∧ (((i 23 8).toInt = 1 ∧ u.1 = i ∧ u.2 = r) ∨ ((i 23 8).toInt = 0 ∧ (u.1 1 1).toInt = 0 ∧ ftC i u.1 r u.2 a9 b9))) (fun u => hwc g ka u.1 u.2 L d) A) ([.ref (g 0)] : List Value).toArray s 1 6 A) (F0 m 73 ls []) := by
        intro fuel_lp_16
        induction fuel_lp_16 with
        | zero => intros; omega
        | succ fuel_lp_16 ih_lp_16 =>
          intro f t j1 H locs ls hm hr_f hr_t hi_lp_16_0 hi_lp_16_1 hO_j1 hfr_j1 hl hH hS
          refine lv_iload hx hb dX11_filter_73 (lv_at hl 0 rfl) ?_
          refine lv_aload_n hx hb dX11_filter_75 rfl (lv_at hl 4 rfl) ?_
          refine h_getr (ci := 11) (C := RX11) (F := TX11) (N := 14) hx hb hts in11 hown hK hH (by decide) (rfl : kd 0 = 11) (by decide) rfl 2 (by decide) wd6 (fun _ h9 => h9) (by decide) rfl (t := 13) ((RS_put (RS_put hR rfl) rfl) 0 2 rfl) (by decide) dX11_filter_76 ?_
          have bx_17 : (0 : Int) ≤ (i 13 4).toInt ∧ (i 13 4).toInt ≤ 24 := hO 13 4
          refine h_geti (ci := 1) (C := RX1) (F := TX1) (N := 5) hx hb hts in1 hown hK hH (by decide) (rfl : kd 13 = 1) (by decide) rfl 4 (by decide) wd7 (fun _ h9 => h9) (by decide) rfl dX11_filter_79 ?_
          refine sj_i (y := (i 13 4)) ((congrFun (hfr_j1 13 (by omega)) _).trans ((congrFun (up2_n _ _ (by decide)) _).trans (congrFun (hfr_7 13 (by omega)) _))) ?_
          refine lv_icmp_ge (tgt := 117) hx hb dX11_filter_82 (by decide) (fun c_18 => ?_) (fun c_18 => ?_)
          · skip
            have h_19 := s_le (rfl : (i 13 4).toInt = _) (rfl : f.toInt = _) c_18
            refine lv_iload_n hx hb dX11_filter_117 rfl (lv_at hl 1 rfl) ?_
            have hp_20 : (j1 1 1).toInt = (0 : Int32).toInt := congrArg Int32.toInt (((congrFun (hfr_j1 1 (by omega)) _).trans (up2_at _ _ _ _)))
            have hl_21 : (0 : Int32).toInt = 0 := rfl
            have hV_22 : (i 23 8).toInt = 0 ∧ (j1 1 1).toInt = 0 := ⟨by omega, by omega⟩
            have hcy := hct.resolve_right (fun q => by have := q.1; omega)
            have hV_23 : ftC i j1 r (upr (upr r 0 12 (357 + 2 * b9)) 0 13 (357 + 2 * a9)) a9 b9 := (Or.inr ⟨hcy.2.1, (upr_k _ _ (by decide)).trans (upr_at _ _ _ _), upr_at _ _ _ _, by rw [tgE_J hi_lp_16_1 (by omega)]; exact hcy.2.2.1, hi_lp_16_1.o (by omega) hcy.2.2.2⟩)
            refine vx_ret ?_
            exact sj_zret hx hb hr hlocks rfl hS (j1, (upr (upr r 0 12 (357 + 2 * b9)) 0 13 (357 + 2 * a9))) ⟨hO_j1, (fun a ha => ((hfr_j1 a (by omega)).trans ((up2_n _ _ (by omega)).trans (hfr_7 a (by omega))))), (RS_put (RS_put hR rfl) rfl), (fun a b ha => ((upr_o _ _ (by omega)).trans (upr_o _ _ (by omega)))), hV_22, hV_23⟩ hH (sj_Knil hK) (Nat.le_of_ble_eq_true rfl) (Nat.le_of_ble_eq_true rfl) dX11_filter_118
          · skip
            have h_24 := s_nle (rfl : (i 13 4).toInt = _) (rfl : f.toInt = _) c_18
            refine lv_aload_n hx hb dX11_filter_85 rfl (lv_at hl 4 rfl) ?_
            refine h_getr (ci := 11) (C := RX11) (F := TX11) (N := 14) hx hb hts in11 hown hK hH (by decide) (rfl : kd 0 = 11) (by decide) rfl 12 (by decide) wd5 (fun _ h9 => h9) (by decide) rfl (t := (357 + 2 * b9)) ((upr_k _ _ (by decide)).trans (upr_at _ _ _ _)) (lt_nK (by omega)) dX11_filter_86 ?_
            refine lv_aload_n hx hb dX11_filter_89 rfl (lv_at hl 4 rfl) ?_
            refine h_getr (ci := 11) (C := RX11) (F := TX11) (N := 14) hx hb hts in11 hown hK hH (by decide) (rfl : kd 0 = 11) (by decide) rfl 2 (by decide) wd6 (fun _ h9 => h9) (by decide) rfl (t := 13) ((RS_put (RS_put hR rfl) rfl) 0 2 rfl) (by decide) dX11_filter_90 ?_
            refine h_getr (ci := 1) (C := RX1) (F := TX1) (N := 5) hx hb hts in1 hown hK hH (by decide) (rfl : kd 13 = 1) (by decide) rfl 3 (by decide) wd8 (fun _ h9 => h9) (by decide) rfl (t := 18) ((RS_put (RS_put hR rfl) rfl) 13 3 rfl) (by decide) dX11_filter_93 ?_
            refine lv_iload hx hb dX11_filter_96 (lv_at hl 0 rfl) ?_
            obtain ⟨j_25, ej_25, hj_25⟩ : ∃ j : Nat, (f).toNatClampNeg = j ∧ (j : Int) = f.toInt := ⟨_, rfl, by rw [s_cl (rfl : f.toInt = _)]; omega⟩
            have lj_25 : j_25 < 24 := by omega
            refine h_qald hx hb hK hH (by decide) (rfl : kd 18 = 18) (by decide) rfl (s_vin (N := 24) (rfl : f.toInt = _) (rfl : ln 18 = 24) (by omega) (by omega)) (t := (216 + 1 * j_25)) (by rw [ej_25]; exact ((RS_put (RS_put hR rfl) rfl) 18 j_25 rfl)) (lt_nK (by omega)) dX11_filter_98 ?_
            have bx_26 : (0 : Int) ≤ (i (216 + 1 * j_25) 3).toInt ∧ (i (216 + 1 * j_25) 3).toInt ≤ 65535 := by have h9 := hO (216 + 1 * j_25) 3; rw [bx_case (by omega) (by omega) 3] at h9; exact h9
            refine h_geti (ci := 0) (C := RX0) (F := TX0) (N := 5) hx hb hts in0 hown hK hH (lt_nK (by omega)) (kd_case (by omega) (by omega)) (by decide) rfl 3 (by decide) wd9 (fun _ h9 => h9) (by decide) rfl dX11_filter_99 ?_
            refine sj_i (y := (i (216 + 1 * j_25) 3)) ((congrFun (hfr_j1 (216 + 1 * j_25) (by omega)) _).trans ((congrFun (up2_n _ _ (by omega)) _).trans (congrFun (hfr_7 (216 + 1 * j_25) (by omega)) _))) ?_
            refine x_calli (va_runV (As := [.int (i (216 + 1 * j_25) 3)]) (rest := []) ⟨hx, hb, hml, hown, hts⟩ (k_holds l D g ka ad j1 (upr (upr r 0 12 (357 + 2 * b9)) 0 13 (357 + 2 * a9)) L d b9 (i (216 + 1 * j_25) 3) hO_j1 (RS_put (RS_put hR rfl) rfl) H.size (by first | omega | decide) (hi_lp_16_1.o (by omega) hcy0.2.2.2).1) (cwV 1 hts gX11_filter_X9_holds rfl rfl rfl (by decide +kernel) ⟨(Nat.le_of_ble_eq_true rfl), (Nat.le_of_ble_eq_true rfl)⟩) (x_preV (q := (RX9, TX9, 4)) hH hK (q_obj (lt_nK (by omega)) (kd_tag (show b9 < 11 by omega)) (by decide)) rfl gxb (gxw hE hS (x_F hH hS hA))) rfl rfl hl.1 rfl (lv_room (Nat.le_of_ble_eq_true rfl)) dX11_filter_102 ⟨(Nat.le_of_ble_eq_true rfl), (Nat.le_of_ble_eq_true rfl)⟩) hH hS hA rfl rfl (fun r_27 im_29 H locs hw_28 hH hS => ?_)
            have hH : sj_H D A (hwc g ka im_29 (upr (upr r 0 12 (357 + 2 * b9)) 0 13 (357 + 2 * a9)) L d) H := hH
            obtain ⟨hO_31, hfr_30, hr_32, he_33, hx2_34⟩ := hw_28
            have hr_32 : (0 : Int) ≤ r_27.toInt ∧ r_27.toInt ≤ 1 := hr_32
            refine lv_if_eq (tgt := 111) hx hb dX11_filter_105 (by decide) (fun c_35 => ?_) (fun c_35 => ?_)
            · skip
              have h_36 := s_eq (rfl : r_27.toInt = _) (show (0 : Int32).toInt = 0 from rfl) c_35
              obtain ⟨z_37, ez_37, hz_37⟩ := s_add (rfl : f.toInt = _) (show (1 : Int32).toInt = 1 from rfl) (by omega) (by omega)
              refine lv_iinc (v := z_37) (lv' := [(4, .int z_37), (3, .int t), (2, .ref (g (357 + 2 * a9))), (1, .int r_4), (0, .ref (g 0))]) hx hb dX11_filter_111 hl (k := 0) rfl ez_37 (by decide) rfl (fun ls hl => ?_)
              refine lv_goto (tgt := 73) hx hb dX11_filter_114 (by decide) ?_
              have hSCn := (show SC j1 im_29 from ⟨hfr_30 33 (by omega), congrArg Int32.toInt (congrFun (hfr_30 0 (by omega)) 11), tgE.one (by omega) hfr_30 he_33.1, fun c9 hc9 => congrFun (hfr_30 (216 + 1 * c9) (by omega)) 3, fun a ha => hfr_30 a (by omega)⟩)
              exact ih_lp_16 z_37 t _ _ _ ls (by omega) (by omega) (by omega) (by omega) (hi_lp_16_1.trans hSCn.2.2.1) hO_31 (fun a ha => ((hfr_30 a (by omega)).trans (hfr_j1 a (by omega)))) (lv_sub hl [0, 1, 2, 3, 4] rfl) hH hS
            · skip
              have h_38 := s_ne (rfl : r_27.toInt = _) (show (0 : Int32).toInt = 0 from rfl) c_35
              obtain ⟨z_39, ez_39, hz_39⟩ := s_add (rfl : t.toInt = _) (show (1 : Int32).toInt = 1 from rfl) (by omega) (by omega)
              refine lv_iinc (v := z_39) (lv' := [(3, .int z_39), (4, .int f), (2, .ref (g (357 + 2 * a9))), (1, .int r_4), (0, .ref (g 0))]) hx hb dX11_filter_108 hl (k := 1) rfl ez_39 (by decide) rfl (fun ls hl => ?_)
              obtain ⟨z_40, ez_40, hz_40⟩ := s_add (rfl : f.toInt = _) (show (1 : Int32).toInt = 1 from rfl) (by omega) (by omega)
              refine lv_iinc (v := z_40) (lv' := [(4, .int z_40), (3, .int z_39), (2, .ref (g (357 + 2 * a9))), (1, .int r_4), (0, .ref (g 0))]) hx hb dX11_filter_111 hl (k := 1) rfl ez_40 (by decide) rfl (fun ls hl => ?_)
              refine lv_goto (tgt := 73) hx hb dX11_filter_114 (by decide) ?_
              have hSCn := (show SC j1 im_29 from ⟨hfr_30 33 (by omega), congrArg Int32.toInt (congrFun (hfr_30 0 (by omega)) 11), tgE.one (by omega) hfr_30 he_33.1, fun c9 hc9 => congrFun (hfr_30 (216 + 1 * c9) (by omega)) 3, fun a ha => hfr_30 a (by omega)⟩)
              exact ih_lp_16 z_40 z_39 _ _ _ ls (by omega) (by omega) (by omega) (by omega) (hi_lp_16_1.trans hSCn.2.2.1) hO_31 (fun a ha => ((hfr_30 a (by omega)).trans (hfr_j1 a (by omega)))) (lv_sub hl [0, 1, 2, 3, 4] rfl) hH hS
      have hl_41 : (0 : Int32).toInt = 0 := rfl
      have hl_42 : (0 : Int32).toInt = 0 := rfl
      exact lp_16 _ 0 0 _ _ _ ls (Nat.lt_succ_self _) (by omega) (by omega) (by omega) ((show SC im_6 (up2 im_6 1 1 0) from ⟨up2_n _ _ (by omega), congrArg Int32.toInt (up2_o _ _ (by omega)), tgE.of (fun a ha => up2_n _ _ (by omega)), fun c9 hc9 => up2_o _ _ (by omega), fun a ha => up2_n _ _ (by omega)⟩)).2.2.1 hO_13 (fun a ha => rfl) (lv_sub hl [0, 1, 2, 3, 4] rfl) hH hS
    · skip
      have h_43 := s_eq (rfl : r_4.toInt = _) (show (0 : Int32).toInt = 0 from rfl) c_14
      have hp_44 : ((up2 im_6 1 1 0) 1 1).toInt = (0 : Int32).toInt := congrArg Int32.toInt ((up2_at _ _ _ _))
      have hl_45 : (0 : Int32).toInt = 0 := rfl
      have hV_46 : ((i 23 8).toInt = 1 ∧ (up2 im_6 1 1 0) = i ∧ r = r) ∨ ((i 23 8).toInt = 0 ∧ ((up2 im_6 1 1 0) 1 1).toInt = 0 ∧ ftC i (up2 im_6 1 1 0) r r a9 b9) := (Or.inr ⟨by omega, by omega, (Or.inl ⟨(hct.resolve_left (fun q => by have := q.1; omega)).2, rfl, rfl, (by unfold tgJ; rw [show (up2 im_6 1 1 0) (357 + 2 * a9 + 1) = i (357 + 2 * a9 + 1) from ((up2_n _ _ (by omega)).trans (hfr_7 (357 + 2 * a9 + 1) (by omega))), show (up2 im_6 1 1 0) (357 + 2 * a9) = i (357 + 2 * a9) from ((up2_n _ _ (by omega)).trans (hfr_7 (357 + 2 * a9) (by omega)))]), tgO_J ((up2_n _ _ (by omega)).trans (hfr_7 (357 + 2 * a9 + 1) (by omega))) ((up2_n _ _ (by omega)).trans (hfr_7 (357 + 2 * a9) (by omega))) hTO⟩)⟩)
      have hpx : (fun (E : String) (u : (Nat → Nat → Int32) × (Nat → Nat → Nat)) => OkI u.1 ∧ (∀ a, ¬ (a = 1 ∨ (375 ≤ a ∧ a < 379)) → u.1 a = i a) ∧ RS u.2 ∧ (∀ a b, ¬ (a = 0 ∧ (b = 12 ∨ b = 13)) → u.2 a b = r a b) ∧ (((i 23 8).toInt = 1 ∧ u.1 = i ∧ u.2 = r) ∨ ((i 23 8).toInt = 0 ∧ (u.1 1 1).toInt = 0 ∧ ftC i u.1 r u.2 a9 b9))) "java/lang/IllegalArgumentException" ((up2 im_6 1 1 0), r) := ⟨hO_13, (fun a ha => ((up2_n _ _ (by omega)).trans (hfr_7 a (by omega)))), hR, (fun a b ha => rfl), hV_46⟩
      have hHx : sj_H D A ((fun (u : (Nat → Nat → Int32) × (Nat → Nat → Nat)) => hwc g ka u.1 u.2 L d) ((up2 im_6 1 1 0), r)) H := hH
      exact x_throw (px := (fun (E : String) (u : (Nat → Nat → Int32) × (Nat → Nat → Nat)) => OkI u.1 ∧ (∀ a, ¬ (a = 1 ∨ (375 ≤ a ∧ a < 379)) → u.1 a = i a) ∧ RS u.2 ∧ (∀ a b, ¬ (a = 0 ∧ (b = 12 ∨ b = 13)) → u.2 a b = r a b) ∧ (((i 23 8).toInt = 1 ∧ u.1 = i ∧ u.2 = r) ∨ ((i 23 8).toInt = 0 ∧ (u.1 1 1).toInt = 0 ∧ ftC i u.1 r u.2 a9 b9)))) (W1 := (fun (u : (Nat → Nat → Int32) × (Nat → Nat → Nat)) => hwc g ka u.1 u.2 L d)) hx hb hst (ik := 124) (ic := 126) (cls := "java/lang/IllegalArgumentException") ((up2 im_6 1 1 0), r) hpx hown (by decide) wd10 wd11 (fun w h => hts w (thr_126 w h)) (by decide +kernel) (by decide +kernel) (gx_iae hE) hS hHx hK (hl.1.trans hml.symm) dX11_filter_42 dX11_filter_45 dX11_filter_46 dX11_filter_49 hnt (Nat.le_of_ble_eq_true rfl) (Nat.le_of_ble_eq_true rfl) (Nat.le_of_ble_eq_true rfl) (Nat.le_of_ble_eq_true rfl) hlocks (Nat.le_of_ble_eq_true rfl) (Nat.le_of_ble_eq_true rfl)
  · skip
    have h_47 := s_ne (rfl : (i 23 8).toInt = _) (show (0 : Int32).toInt = 0 from rfl) c_2
    have hV_48 : ((i 23 8).toInt = 1 ∧ i = i ∧ r = r) ∨ ((i 23 8).toInt = 0 ∧ (i 1 1).toInt = 0 ∧ ftC i i r r a9 b9) := (Or.inl ⟨by omega, rfl, rfl⟩)
    have hpx : (fun (E : String) (u : (Nat → Nat → Int32) × (Nat → Nat → Nat)) => OkI u.1 ∧ (∀ a, ¬ (a = 1 ∨ (375 ≤ a ∧ a < 379)) → u.1 a = i a) ∧ RS u.2 ∧ (∀ a b, ¬ (a = 0 ∧ (b = 12 ∨ b = 13)) → u.2 a b = r a b) ∧ (((i 23 8).toInt = 1 ∧ u.1 = i ∧ u.2 = r) ∨ ((i 23 8).toInt = 0 ∧ (u.1 1 1).toInt = 0 ∧ ftC i u.1 r u.2 a9 b9))) "java/lang/IllegalStateException" (i, r) := ⟨hO, (fun a ha => rfl), hR, (fun a b ha => rfl), hV_48⟩
    have hHx : sj_H D A ((fun (u : (Nat → Nat → Int32) × (Nat → Nat → Nat)) => hwc g ka u.1 u.2 L d) (i, r)) s.heap := hH
    exact x_throw (px := (fun (E : String) (u : (Nat → Nat → Int32) × (Nat → Nat → Nat)) => OkI u.1 ∧ (∀ a, ¬ (a = 1 ∨ (375 ≤ a ∧ a < 379)) → u.1 a = i a) ∧ RS u.2 ∧ (∀ a b, ¬ (a = 0 ∧ (b = 12 ∨ b = 13)) → u.2 a b = r a b) ∧ (((i 23 8).toInt = 1 ∧ u.1 = i ∧ u.2 = r) ∨ ((i 23 8).toInt = 0 ∧ (u.1 1 1).toInt = 0 ∧ ftC i u.1 r u.2 a9 b9)))) (W1 := (fun (u : (Nat → Nat → Int32) × (Nat → Nat → Nat)) => hwc g ka u.1 u.2 L d)) hx hb hst (ik := 92) (ic := 94) (cls := "java/lang/IllegalStateException") (i, r) hpx hown (by decide) wd12 wd13 (fun w h => hts w (thr_94 w h)) (by decide +kernel) (by decide +kernel) (gx_ise hE) hS hHx hK (hl.1.trans hml.symm) dX11_filter_10 dX11_filter_13 dX11_filter_14 dX11_filter_17 hnt (Nat.le_of_ble_eq_true rfl) (Nat.le_of_ble_eq_true rfl) (Nat.le_of_ble_eq_true rfl) (Nat.le_of_ble_eq_true rfl) hlocks (Nat.le_of_ble_eq_true rfl) (Nat.le_of_ble_eq_true rfl)
set_option maxHeartbeats 2000000 in
set_option maxRecDepth 100000 in
theorem k_start (l : Launch) (D : va_G) (g : Nat → Nat) (ka : Nat → ClassId) (ad : Nat → Nat) (i : Nat → Nat → Int32) (r : Nat → Nat → Nat) (L : Nat → Nat → Int64) (d : Nat → Nat → UInt64) (a9 : Nat) (b9 : Nat) (x : Int32) (hO : OkI i) (hR : RS r) (sz : Nat) (hst : l.stackTraces = false) (hPC : PC i r) (ha9 : 9 ≤ a9 ∧ a9 < 11) (hb9 : 9 ≤ b9 ∧ b9 < 11) (hab : a9 ≠ b9) (hr12 : r 0 12 = 357 + 2 * a9) (hr13 : r 0 13 = 357 + 2 * b9) (hTO : tgO i a9) (hRI : RI i r d) (hev : (i 23 10).toInt ≤ 1900000000) : vx_Met l yX11_start wsX11_start ({ frames := 124, cells := 1, slots := 6, locals := 4925 }) (va_Pc [.ref (g 0), .int x] (sj_B D (hwc g ka i r L d) (hT ka) sz (gx ad (va_A (hwc g ka i r L d) sz)))) (sj_Qi (S := (Nat → Nat → Int32)) D (fun v u => OkI u ∧ (∀ a, ¬ (a = 23 ∨ (25 ≤ a ∧ a < 28) ∨ a = 28 ∨ a = 29 ∨ (216 ≤ a ∧ a < 240) ∨ (375 ≤ a ∧ a < 379)) → u a = i a) ∧ (RI u r d) ∧ ((i 23 8).toInt = 0 ∧ (1 ≤ x.toInt ∧ x.toInt ≤ 3) ∧ rest u r = ksum i r a9 (i 13 4).toInt.toNat ∧ ((0 < ksum i r a9 (i 13 4).toInt.toNat ∧ (u 23 8).toInt = 1) ∨ (ksum i r a9 (i 13 4).toInt.toNat ≤ 0 ∧ (u 23 8).toInt = 0))) ∧ (((u 23 10).toInt ≤ (i 23 10).toInt + 2)) ∧ (SC i u)) (fun u => hwc g ka u r L d) (fun _ => []) (va_A (hwc g ka i r L d) sz)) (x_XC (S := (Nat → Nat → Int32)) D (fun (E : String) u => OkI u ∧ (∀ a, ¬ (a = 23 ∨ (25 ≤ a ∧ a < 28) ∨ a = 28 ∨ a = 29 ∨ (216 ≤ a ∧ a < 240) ∨ (375 ≤ a ∧ a < 379)) → u a = i a) ∧ (u = i ∧ ((i 23 8).toInt = 1 ∨ ((i 23 8).toInt = 0 ∧ (x.toInt < 1 ∨ 3 < x.toInt))))) (fun u => hwc g ka u r L d) (va_A (hwc g ka i r L d) sz)) 1 6 (va_A (hwc g ka i r L d) sz) := by
  refine x_vmet (Ex := gx ad) (XC := x_XC (S := (Nat → Nat → Int32)) D (fun (E : String) u => OkI u ∧ (∀ a, ¬ (a = 23 ∨ (25 ≤ a ∧ a < 28) ∨ a = 28 ∨ a = 29 ∨ (216 ≤ a ∧ a < 240) ∨ (375 ≤ a ∧ a < 379)) → u a = i a) ∧ (u = i ∧ ((i 23 8).toInt = 1 ∨ ((i 23 8).toInt = 0 ∧ (x.toInt < 1 ∨ 3 < x.toInt))))) (fun u => hwc g ka u r L d)) (cc := cX11_start) (maxL := 4) (ret := (some .int)) (by decide) rfl (Nat.le_of_ble_eq_true rfl) ?_
  intro p e s m below meth c A ls hx hb hr hml hts hown hlocks hnt hA hS hH hK hE hl
  have hown : s.vm.findClass RX11 = some m.cls := hown
  have in0 : ∀ w ∈ wsX00, w ∈ wsX11_start := (fun _ h => (List.mem_cons_of_mem _ (List.mem_append_left _ (List.mem_append_left _ (List.mem_append_left _ (List.mem_append_left _ (List.mem_append_right _ h)))))))
  have in1 : ∀ w ∈ wsX10, w ∈ wsX11_start := (fun _ h => (List.mem_cons_of_mem _ (List.mem_append_left _ (List.mem_append_left _ (List.mem_append_left _ (List.mem_append_left _ (List.mem_append_left _ (List.mem_append_right _ h))))))))
  have in7 : ∀ w ∈ wsX70, w ∈ wsX11_start := (fun _ h => (List.mem_cons_of_mem _ (List.mem_append_left _ (List.mem_append_left _ (List.mem_append_left _ (List.mem_append_left _ (List.mem_append_left _ (List.mem_append_left _ (List.mem_append_right _ h)))))))))
  have in11 : ∀ w ∈ wsX110, w ∈ wsX11_start := (fun _ h => (List.mem_cons_of_mem _ (List.mem_append_left _ (List.mem_append_left _ (List.mem_append_left _ (List.mem_append_left _ (List.mem_append_left _ (List.mem_append_left _ (List.mem_append_left _ (List.mem_append_right _ h))))))))))
  have wd0 := hts (.fieldLink RX11 44 "StoryDesk" "run" "LStoryDesk$Run;") (List.mem_cons_of_mem _ (List.mem_append_left _ (List.mem_append_left _ (List.mem_append_left _ (List.mem_append_left _ (List.mem_append_left _ (List.mem_append_left _ (List.mem_append_left _ (List.mem_append_left _ (List.mem_append_left _ lm4))))))))))
  have wd1 := hts (.fieldLink RX11 88 "StoryDesk$Run" "underWay" "Z") (List.mem_cons_of_mem _ (List.mem_append_left _ (List.mem_append_left _ (List.mem_append_left _ (List.mem_append_left _ (List.mem_append_left _ (List.mem_append_left _ (List.mem_append_left _ (List.mem_append_left _ (List.mem_append_left _ lm5))))))))))
  have wd2 := hts (.classLink RX11 124 "java/lang/IllegalArgumentException") (List.mem_cons_of_mem _ (List.mem_append_left _ (List.mem_append_left _ (List.mem_append_left _ (List.mem_append_left _ (List.mem_append_left _ (List.mem_append_left _ (List.mem_append_left _ (List.mem_append_left _ (List.mem_append_left _ lm2))))))))))
  have wd3 := hts (.initialized "java/lang/IllegalArgumentException") (List.mem_cons_of_mem _ (List.mem_append_left _ (List.mem_append_left _ (List.mem_append_left _ (List.mem_append_left _ (List.mem_append_left _ (List.mem_append_left _ (List.mem_append_left _ (List.mem_append_left _ (List.mem_append_left _ lm3))))))))))
  have wd4 := hts (.fieldLink RX11 30 "StoryDesk" "cases" "LStoryDesk$Cases;") (List.mem_cons_of_mem _ (List.mem_append_left _ (List.mem_append_left _ (List.mem_append_left _ (List.mem_append_left _ (List.mem_append_left _ (List.mem_append_left _ (List.mem_append_left _ (List.mem_append_left _ (List.mem_append_left _ lm6))))))))))
  have wd5 := hts (.fieldLink RX11 134 "StoryDesk$Cases" "count" "I") (List.mem_cons_of_mem _ (List.mem_append_left _ (List.mem_append_left _ (List.mem_append_left _ (List.mem_append_left _ (List.mem_append_left _ (List.mem_append_left _ (List.mem_append_left _ (List.mem_append_left _ (List.mem_append_left _ lm7))))))))))
  have wd6 := hts (.fieldLink RX11 232 "StoryDesk$Run" "queued" "I") (List.mem_cons_of_mem _ (List.mem_append_left _ (List.mem_append_left _ (List.mem_append_left _ (List.mem_append_left _ (List.mem_append_left _ (List.mem_append_left _ (List.mem_append_left _ (List.mem_append_left _ (List.mem_append_left _ lm12))))))))))
  have wd7 := hts (.fieldLink RX11 137 "StoryDesk$Cases" "all" "[LStoryDesk$Case;") (List.mem_cons_of_mem _ (List.mem_append_left _ (List.mem_append_left _ (List.mem_append_left _ (List.mem_append_left _ (List.mem_append_left _ (List.mem_append_left _ (List.mem_append_left _ (List.mem_append_left _ (List.mem_append_left _ lm8))))))))))
  have wd8 := hts (.fieldLink RX11 173 "StoryDesk$Case" "status" "I") (List.mem_cons_of_mem _ (List.mem_append_left _ (List.mem_append_left _ (List.mem_append_left _ (List.mem_append_left _ (List.mem_append_left _ (List.mem_append_left _ (List.mem_append_left _ (List.mem_append_left _ (List.mem_append_left _ lm9))))))))))
  have wd9 := hts (.fieldLink RX11 73 "StoryDesk" "filterInUse" "LStoryDesk$TagExpression;") (List.mem_cons_of_mem _ (List.mem_append_left _ (List.mem_append_left _ (List.mem_append_left _ (List.mem_append_left _ (List.mem_append_left _ (List.mem_append_left _ (List.mem_append_left _ (List.mem_append_left _ (List.mem_append_left _ lm10))))))))))
  have wd10 := hts (.fieldLink RX11 141 "StoryDesk$Case" "tags" "I") (List.mem_cons_of_mem _ (List.mem_append_left _ (List.mem_append_left _ (List.mem_append_left _ (List.mem_append_left _ (List.mem_append_left _ (List.mem_append_left _ (List.mem_append_left _ (List.mem_append_left _ (List.mem_append_left _ lm11))))))))))
  have wd11 := hts (.classLink RX11 92 "java/lang/IllegalStateException") (List.mem_cons_of_mem _ (List.mem_append_left _ (List.mem_append_left _ (List.mem_append_left _ (List.mem_append_left _ (List.mem_append_left _ (List.mem_append_left _ (List.mem_append_left _ (List.mem_append_left _ (List.mem_append_left _ lm0))))))))))
  have wd12 := hts (.initialized "java/lang/IllegalStateException") (List.mem_cons_of_mem _ (List.mem_append_left _ (List.mem_append_left _ (List.mem_append_left _ (List.mem_append_left _ (List.mem_append_left _ (List.mem_append_left _ (List.mem_append_left _ (List.mem_append_left _ (List.mem_append_left _ lm1))))))))))
  have thr_94 : ∀ w ∈ (vx_at0 RX11 94 "java/lang/IllegalStateException" ["java/lang/RuntimeException", "java/lang/Exception"]).filter goodWord, w ∈ wsX11_start := by decide +kernel
  have thr_126 : ∀ w ∈ (vx_at0 RX11 126 "java/lang/IllegalArgumentException" ["java/lang/RuntimeException", "java/lang/Exception"]).filter goodWord, w ∈ wsX11_start := by decide +kernel
  have hl : lv_has ls 4 [(0, .ref (g 0)), (1, .int x)] := hl
  have hK : va_K D vwCl (hT ka) s := hK
  have hg_1 := s_rng x
  have hbu8 : (0 : Int) ≤ (i 23 8).toInt ∧ (i 23 8).toInt ≤ 1 := hO 23 8
  have hb13 : (0 : Int) ≤ (i 13 4).toInt ∧ (i 13 4).toInt ≤ 24 := hO 13 4
  refine lv_aload_n hx hb dX11_start_0 rfl (lv_at hl 0 rfl) ?_
  refine h_getr (ci := 11) (C := RX11) (F := TX11) (N := 14) hx hb hts in11 hown hK hH (by decide) (rfl : kd 0 = 11) (by decide) rfl 4 (by decide) wd0 (fun _ h9 => h9) (by decide) rfl (t := 23) (hR 0 4 rfl) (by decide) dX11_start_1 ?_
  have bx_2 : (0 : Int) ≤ (i 23 8).toInt ∧ (i 23 8).toInt ≤ 1 := hO 23 8
  refine h_geti (ci := 7) (C := RX7) (F := TX7) (N := 11) hx hb hts in7 hown hK hH (by decide) (rfl : kd 23 = 7) (by decide) rfl 8 (by decide) wd1 (fun _ h9 => h9) (by decide) rfl dX11_start_4 ?_
  refine lv_if_eq (tgt := 18) hx hb dX11_start_7 (by decide) (fun c_3 => ?_) (fun c_3 => ?_)
  · skip
    have h_4 := s_eq (rfl : (i 23 8).toInt = _) (show (0 : Int32).toInt = 0 from rfl) c_3
    refine lv_iload_n hx hb dX11_start_18 rfl (lv_at hl 1 rfl) ?_
    refine lv_iconst (v := 1) hx hb dX11_start_19 (by decide) ?_
    refine lv_icmp_lt (tgt := 28) hx hb dX11_start_20 (by decide) (fun c_5 => ?_) (fun c_5 => ?_)
    · skip
      have h_6 := s_lt (rfl : x.toInt = _) (show (1 : Int32).toInt = 1 from rfl) c_5
      have hV_7 : i = i ∧ ((i 23 8).toInt = 1 ∨ ((i 23 8).toInt = 0 ∧ (x.toInt < 1 ∨ 3 < x.toInt))) := ⟨rfl, by omega⟩
      have hpx : (fun (E : String) (u : (Nat → Nat → Int32)) => OkI u ∧ (∀ a, ¬ (a = 23 ∨ (25 ≤ a ∧ a < 28) ∨ a = 28 ∨ a = 29 ∨ (216 ≤ a ∧ a < 240) ∨ (375 ≤ a ∧ a < 379)) → u a = i a) ∧ (u = i ∧ ((i 23 8).toInt = 1 ∨ ((i 23 8).toInt = 0 ∧ (x.toInt < 1 ∨ 3 < x.toInt))))) "java/lang/IllegalArgumentException" i := ⟨hO, (fun a ha => rfl), hV_7⟩
      have hHx : sj_H D A ((fun (u : (Nat → Nat → Int32)) => hwc g ka u r L d) i) s.heap := hH
      exact x_throw (px := (fun (E : String) (u : (Nat → Nat → Int32)) => OkI u ∧ (∀ a, ¬ (a = 23 ∨ (25 ≤ a ∧ a < 28) ∨ a = 28 ∨ a = 29 ∨ (216 ≤ a ∧ a < 240) ∨ (375 ≤ a ∧ a < 379)) → u a = i a) ∧ (u = i ∧ ((i 23 8).toInt = 1 ∨ ((i 23 8).toInt = 0 ∧ (x.toInt < 1 ∨ 3 < x.toInt)))))) (W1 := (fun (u : (Nat → Nat → Int32)) => hwc g ka u r L d)) hx hb hst (ik := 124) (ic := 126) (cls := "java/lang/IllegalArgumentException") i hpx hown (by decide) wd2 wd3 (fun w h => hts w (thr_126 w h)) (by decide +kernel) (by decide +kernel) (gx_iae hE) hS hHx hK (hl.1.trans hml.symm) dX11_start_28 dX11_start_31 dX11_start_32 dX11_start_35 hnt (Nat.le_of_ble_eq_true rfl) (Nat.le_of_ble_eq_true rfl) (Nat.le_of_ble_eq_true rfl) (Nat.le_of_ble_eq_true rfl) hlocks (Nat.le_of_ble_eq_true rfl) (Nat.le_of_ble_eq_true rfl)
    · skip
      have h_8 := s_nlt (rfl : x.toInt = _) (show (1 : Int32).toInt = 1 from rfl) c_5
      refine lv_iload_n hx hb dX11_start_23 rfl (lv_at hl 1 rfl) ?_
      refine lv_iconst (v := 3) hx hb dX11_start_24 (by decide) ?_
      refine lv_icmp_le (tgt := 36) hx hb dX11_start_25 (by decide) (fun c_9 => ?_) (fun c_9 => ?_)
      · skip
        have h_10 := s_le (rfl : x.toInt = _) (show (3 : Int32).toInt = 3 from rfl) c_9
        refine lv_aload_n hx hb dX11_start_36 rfl (lv_at hl 0 rfl) ?_
        refine h_getr (ci := 11) (C := RX11) (F := TX11) (N := 14) hx hb hts in11 hown hK hH (by decide) (rfl : kd 0 = 11) (by decide) rfl 4 (by decide) wd0 (fun _ h9 => h9) (by decide) rfl (t := 23) (hR 0 4 rfl) (by decide) dX11_start_37 ?_
        refine lv_iload_n hx hb dX11_start_40 rfl (lv_at hl 1 rfl) ?_
        refine x_callv (va_runV (As := [.int x]) (rest := []) ⟨hx, hb, hml, hown, hts⟩ (k_clear l D g ka ad i r L d x hO hR s.heap.size (by first | omega | decide) (by first | omega | decide)) (cwV 1 hts gX11_start_X7_clear rfl rfl rfl (by decide +kernel) ⟨(Nat.le_of_ble_eq_true rfl), (Nat.le_of_ble_eq_true rfl)⟩) (x_preV (q := (RX7, TX7, 11)) hH hK (q_obj (by decide) (rfl : kd 23 = 7) (by decide)) rfl gxb (gxw hE hS (x_F hH hS hA))) rfl rfl hl.1 rfl (lv_room (Nat.le_of_ble_eq_true rfl)) dX11_start_41 ⟨(Nat.le_of_ble_eq_true rfl), (Nat.le_of_ble_eq_true rfl)⟩) hH hS hA rfl rfl (fun im_13 H locs hw_12 hH hS => ?_)
        have hH : sj_H D A (hwc g ka im_13 r L d) H := hH
        obtain ⟨hO_15, hfr_14, he_16⟩ := hw_12
        refine lv_iconst (v := 0) hx hb dX11_start_44 (by decide) ?_
        refine lv_istore_n (lv' := [(2, .int 0), (0, .ref (g 0)), (1, .int x)]) hx hb dX11_start_45 rfl hl (by decide) rfl (fun ls hl => ?_)
        -- loop at 46
        have lp_17 : ∀ (fuel_lp_17 : Nat) (f : Int32) (j1 : Nat → Nat → Int32) (H : Heap) (locs : List Loc) (ls : Array Slot), (24 - f.toInt).toNat < fuel_lp_17 → (0 : Int) ≤ f.toInt ∧ f.toInt ≤ 24 → f.toInt ≤ (i 13 4).toInt → quI i j1 r a9 f.toInt → SC i j1 → (j1 23 1).toInt = x.toInt ∧ (j1 23 2).toInt = 0 ∧ (j1 23 5).toInt = 0 ∧ (j1 23 6).toInt = 0 ∧ (j1 23 8).toInt = 1 ∧ (j1 23 10).toInt = (i 23 10).toInt → OkI j1 → (∀ a, ¬ (a = 23 ∨ a = 28 ∨ (216 ≤ a ∧ a < 240) ∨ a = 357 + 2 * a9) → j1 a = im_13 a) → lv_has ls 4 [(2, .int f), (0, .ref (g 0)), (1, .int x)] → sj_H D A (hwc g ka j1 r L d) H → va_S A s.heap H locs → W p l e (headSpec wsX11_start ({ frames := 124, cells := 1, slots := 6, locals := 4925 })).room s m ([.ref (g 0), .int x] : List Value).toArray below meth c H locs 0 0 (vx_MQ below (sj_Qi (S := (Nat → Nat → Int32)) D (fun v u => OkI u ∧ (∀ a, ¬ (a = 23 ∨ (25 ≤ a ∧ a < 28) ∨ a = 28 ∨ a = 29 ∨ (216 ≤ a ∧ a < 240) ∨ (375 ≤ a ∧ a < 379)) → u a = i a) ∧ (RI u r d) ∧ ((i 23 8).toInt = 0 ∧ (1 ≤ x.toInt ∧ x.toInt ≤ 3) ∧ rest u r = ksum i r a9 (i 13 4).toInt.toNat ∧ ((0 < ksum i r a9 (i 13 4).toInt.toNat ∧ (u 23 8).toInt = 1) ∨ (ksum i r a9 (i 13 4).toInt.toNat ≤ 0 ∧ (u 23 8).toInt = 0))) ∧ (((u 23 10).toInt ≤ (i 23 10).toInt + 2)) ∧ (SC i u)) (fun u => hwc g ka u r L d) (fun _ => []) A) (x_XC (S := (Nat → Nat → Int32)) D (fun (E : String) u => OkI u ∧ (∀ a, ¬ (a = 23 ∨ (25 ≤ a ∧ a < 28) ∨ a = 28 ∨ a = 29 ∨ (216 ≤ a ∧ a < 240) ∨ (375 ≤ a ∧ a < 379)) → u a = i a) ∧ (u = i ∧ ((i 23 8).toInt = 1 ∨ ((i 23 8).toInt = 0 ∧ (x.toInt < 1 ∨ 3 < x.toInt))))) (fun u => hwc g ka u r L d) A) ([.ref (g 0), .int x] : List Value).toArray s 1 6 A) (F0 m 46 ls []) := by
          intro fuel_lp_17
          induction fuel_lp_17 with
          | zero => intros; omega
          | succ fuel_lp_17 ih_lp_17 =>
            intro f j1 H locs ls hm hr_f hi_lp_17_0 hi_lp_17_1 hi_lp_17_2 hi_lp_17_3 hO_j1 hfr_j1 hl hH hS
            refine lv_iload_n hx hb dX11_start_46 rfl (lv_at hl 0 rfl) ?_
            refine lv_aload_n hx hb dX11_start_47 rfl (lv_at hl 1 rfl) ?_
            refine h_getr (ci := 11) (C := RX11) (F := TX11) (N := 14) hx hb hts in11 hown hK hH (by decide) (rfl : kd 0 = 11) (by decide) rfl 2 (by decide) wd4 (fun _ h9 => h9) (by decide) rfl (t := 13) (hR 0 2 rfl) (by decide) dX11_start_48 ?_
            have bx_18 : (0 : Int) ≤ (i 13 4).toInt ∧ (i 13 4).toInt ≤ 24 := hO 13 4
            refine h_geti (ci := 1) (C := RX1) (F := TX1) (N := 5) hx hb hts in1 hown hK hH (by decide) (rfl : kd 13 = 1) (by decide) rfl 4 (by decide) wd5 (fun _ h9 => h9) (by decide) rfl dX11_start_51 ?_
            refine sj_i (y := (i 13 4)) ((congrFun (hfr_j1 13 (by omega)) _).trans (congrFun (hfr_14 13 (by omega)) _)) ?_
            refine lv_icmp_ge (tgt := 100) hx hb dX11_start_54 (by decide) (fun c_19 => ?_) (fun c_19 => ?_)
            · skip
              have h_20 := s_le (rfl : (i 13 4).toInt = _) (rfl : f.toInt = _) c_19
              refine lv_aload_n hx hb dX11_start_100 rfl (lv_at hl 1 rfl) ?_
              refine h_getr (ci := 11) (C := RX11) (F := TX11) (N := 14) hx hb hts in11 hown hK hH (by decide) (rfl : kd 0 = 11) (by decide) rfl 4 (by decide) wd0 (fun _ h9 => h9) (by decide) rfl (t := 23) (hR 0 4 rfl) (by decide) dX11_start_101 ?_
              refine lv_iconst (v := 0) hx hb dX11_start_104 (by decide) ?_
              refine lv_aload_n hx hb dX11_start_105 rfl (lv_at hl 1 rfl) ?_
              refine h_getr (ci := 11) (C := RX11) (F := TX11) (N := 14) hx hb hts in11 hown hK hH (by decide) (rfl : kd 0 = 11) (by decide) rfl 4 (by decide) wd0 (fun _ h9 => h9) (by decide) rfl (t := 23) (hR 0 4 rfl) (by decide) dX11_start_106 ?_
              have bx_21 : (0 : Int) ≤ (j1 23 4).toInt ∧ (j1 23 4).toInt ≤ 24 := hO_j1 23 4
              refine h_geti (ci := 7) (C := RX7) (F := TX7) (N := 11) hx hb hts in7 hown hK hH (by decide) (rfl : kd 23 = 7) (by decide) rfl 4 (by decide) wd6 (fun _ h9 => h9) (by decide) rfl dX11_start_109 ?_
              refine lv_iload_n hx hb dX11_start_112 rfl (lv_at hl 2 rfl) ?_
              refine lv_iconst (v := 0) hx hb dX11_start_113 (by decide) ?_
              have hl_22 : (0 : Int32).toInt = 0 := rfl
              have hl_23 : (0 : Int32).toInt = 0 := rfl
              have hp_24 : (j1 23 1).toInt = ((j1 23 1) : Int32).toInt := rfl
              have hp_25 : (j1 23 2).toInt = ((j1 23 2) : Int32).toInt := rfl
              have hp_26 : (j1 23 4).toInt = ((j1 23 4) : Int32).toInt := rfl
              have hp_27 : (j1 23 5).toInt = ((j1 23 5) : Int32).toInt := rfl
              have hp_28 : (j1 23 6).toInt = ((j1 23 6) : Int32).toInt := rfl
              have hp_29 : (j1 23 7).toInt = ((j1 23 7) : Int32).toInt := rfl
              have hp_30 : (j1 23 8).toInt = ((j1 23 8) : Int32).toInt := rfl
              have hp_31 : (j1 23 10).toInt = ((j1 23 10) : Int32).toInt := rfl
              refine x_callv (va_runV (As := [.int 0, .int (j1 23 4), .int x, .int 0]) (rest := []) ⟨hx, hb, hml, hown, hts⟩ (k_tell l D g ka ad j1 r L d 0 (j1 23 4) x 0 hO_j1 hR H.size (by first | omega | decide)) (cwV 4 hts gX11_start_X7_tell rfl rfl rfl (by decide +kernel) ⟨(Nat.le_of_ble_eq_true rfl), (Nat.le_of_ble_eq_true rfl)⟩) (x_preV (q := (RX7, TX7, 11)) hH hK (q_obj (by decide) (rfl : kd 23 = 7) (by decide)) rfl gxb (gxw hE hS (x_F hH hS hA))) rfl rfl hl.1 rfl (lv_room (Nat.le_of_ble_eq_true rfl)) dX11_start_114 ⟨(Nat.le_of_ble_eq_true rfl), (Nat.le_of_ble_eq_true rfl)⟩) hH hS hA rfl rfl (fun im_34 H locs hw_33 hH hS => ?_)
              have hH : sj_H D A (hwc g ka im_34 r L d) H := hH
              obtain ⟨hO_36, hfr_35, he_37⟩ := hw_33
              refine lv_aload_n hx hb dX11_start_117 rfl (lv_at hl 1 rfl) ?_
              refine h_getr (ci := 11) (C := RX11) (F := TX11) (N := 14) hx hb hts in11 hown hK hH (by decide) (rfl : kd 0 = 11) (by decide) rfl 4 (by decide) wd0 (fun _ h9 => h9) (by decide) rfl (t := 23) (hR 0 4 rfl) (by decide) dX11_start_118 ?_
              have hp_38 : (im_34 23 1).toInt = ((im_34 23 1) : Int32).toInt := rfl
              have hp_39 : (im_34 23 2).toInt = ((im_34 23 2) : Int32).toInt := rfl
              have hp_40 : (im_34 23 4).toInt = ((im_34 23 4) : Int32).toInt := rfl
              have hp_41 : (im_34 23 5).toInt = ((im_34 23 5) : Int32).toInt := rfl
              have hp_42 : (im_34 23 6).toInt = ((im_34 23 6) : Int32).toInt := rfl
              have hp_43 : (im_34 23 7).toInt = ((im_34 23 7) : Int32).toInt := rfl
              have hp_44 : (im_34 23 8).toInt = ((im_34 23 8) : Int32).toInt := rfl
              have hp_45 : (im_34 23 10).toInt = ((im_34 23 10) : Int32).toInt := rfl
              refine x_callv (va_runV (As := []) (rest := []) ⟨hx, hb, hml, hown, hts⟩ (k_endIf l D g ka ad im_34 r L d  hO_36 hR H.size (by first | omega | decide)) (cwV 0 hts gX11_start_X7_endIfNothingIsLeft rfl rfl rfl (by decide +kernel) ⟨(Nat.le_of_ble_eq_true rfl), (Nat.le_of_ble_eq_true rfl)⟩) (x_preV (q := (RX7, TX7, 11)) hH hK (q_obj (by decide) (rfl : kd 23 = 7) (by decide)) rfl gxb (gxw hE hS (x_F hH hS hA))) rfl rfl hl.1 rfl (lv_room (Nat.le_of_ble_eq_true rfl)) dX11_start_121 ⟨(Nat.le_of_ble_eq_true rfl), (Nat.le_of_ble_eq_true rfl)⟩) hH hS hA rfl rfl (fun im_48 H locs hw_47 hH hS => ?_)
              have hH : sj_H D A (hwc g ka im_48 r L d) H := hH
              obtain ⟨hO_50, hfr_49, he_51⟩ := hw_47
              refine lv_aload_n hx hb dX11_start_124 rfl (lv_at hl 1 rfl) ?_
              refine h_getr (ci := 11) (C := RX11) (F := TX11) (N := 14) hx hb hts in11 hown hK hH (by decide) (rfl : kd 0 = 11) (by decide) rfl 4 (by decide) wd0 (fun _ h9 => h9) (by decide) rfl (t := 23) (hR 0 4 rfl) (by decide) dX11_start_125 ?_
              have bx_52 : (0 : Int) ≤ (im_48 23 4).toInt ∧ (im_48 23 4).toInt ≤ 24 := hO_50 23 4
              refine h_geti (ci := 7) (C := RX7) (F := TX7) (N := 11) hx hb hts in7 hown hK hH (by decide) (rfl : kd 23 = 7) (by decide) rfl 4 (by decide) wd6 (fun _ h9 => h9) (by decide) rfl dX11_start_128 ?_
              have hp_53 : (im_48 23 1).toInt = ((im_48 23 1) : Int32).toInt := rfl
              have hp_54 : (im_48 23 2).toInt = ((im_48 23 2) : Int32).toInt := rfl
              have hp_55 : (im_48 23 4).toInt = ((im_48 23 4) : Int32).toInt := rfl
              have hp_56 : (im_48 23 5).toInt = ((im_48 23 5) : Int32).toInt := rfl
              have hp_57 : (im_48 23 6).toInt = ((im_48 23 6) : Int32).toInt := rfl
              have hp_58 : (im_48 23 7).toInt = ((im_48 23 7) : Int32).toInt := rfl
              have hp_59 : (im_48 23 8).toInt = ((im_48 23 8) : Int32).toInt := rfl
              have hp_60 : (im_48 23 10).toInt = ((im_48 23 10) : Int32).toInt := rfl
              have hSCz : SC i im_48 := hi_lp_17_2.trans ((show SC j1 im_34 from ⟨hfr_35 33 (by omega), congrArg Int32.toInt (congrFun (hfr_35 0 (by omega)) 11), tgE.of (fun a ha => hfr_35 a (by omega)), fun c9 hc9 => congrFun (hfr_35 (216 + 1 * c9) (by omega)) 3, fun a ha => hfr_35 a (by omega)⟩).trans (show SC im_34 im_48 from ⟨hfr_49 33 (by omega), congrArg Int32.toInt (congrFun (hfr_49 0 (by omega)) 11), tgE.of (fun a ha => hfr_49 a (by omega)), fun c9 hc9 => congrFun (hfr_49 (216 + 1 * c9) (by omega)) 3, fun a ha => hfr_49 a (by omega)⟩))
              have hPCz : PC im_48 r := (PC_fr hPC (fun a ha => ((hfr_49 a (by omega)).trans ((hfr_35 a (by omega)).trans ((hfr_j1 a (by omega)).trans (hfr_14 a (by omega)))))) (fun _ _ _ => rfl))
              have hnj := (hRI.resolve_right (fun q => by have := q.1; omega)).2
              have hk0 : (im_13 (25 + 1 * 0) 1).toInt < 0 := by show (im_13 25 1).toInt < 0; have h9 : (i 25 1).toInt < 0 := hnj 0 (by omega); omega
              have hk1 : (im_13 (25 + 1 * 1) 1).toInt < 0 := by show (im_13 26 1).toInt < 0; have h9 : (i 26 1).toInt < 0 := hnj 1 (by omega); omega
              have hk2 : (im_13 (25 + 1 * 2) 1).toInt < 0 := by show (im_13 27 1).toInt < 0; have h9 : (i 27 1).toInt < 0 := hnj 2 (by omega); omega
              have hkn : ∀ w9 : Nat, w9 < 3 → (im_48 (25 + 1 * w9) 1).toInt < 0 := fun w9 hw9 => by rw [show im_48 (25 + 1 * w9) = im_13 (25 + 1 * w9) from ((hfr_49 (25 + 1 * w9) (by omega)).trans ((hfr_35 (25 + 1 * w9) (by omega)).trans (hfr_j1 (25 + 1 * w9) (by omega))))]; rcases (show w9 = 0 ∨ w9 = 1 ∨ w9 = 2 by omega) with rfl | rfl | rfl; exact hk0; exact hk1; exact hk2
              have hqz : quI i im_48 r a9 (i 13 4).toInt := by
                  have h9 := hi_lp_17_1
                  rw [show f.toInt = (i 13 4).toInt by omega] at h9
                  unfold quI at h9 ⊢
                  rw [show im_48 28 = j1 28 from ((hfr_49 28 (by omega)).trans (hfr_35 28 (by omega))), show (im_48 23 4).toInt = (j1 23 4).toInt by omega]
                  exact h9
              have hkr := kst_run (i := i) (u := im_48) (r := r) (d := d) (a := a9) hO_50 hO hPC hPCz hSCz (congrArg Int32.toInt (((congrFun (hfr_49 13 (by omega)) _).trans ((congrFun (hfr_35 13 (by omega)) _).trans ((congrFun (hfr_j1 13 (by omega)) _).trans (congrFun (hfr_14 13 (by omega)) _)))))) (by omega) (by omega) (by omega) (by omega) hkn hqz
              have hkr3 := hkr.2.2
              have hV_61 : RI im_48 r d := (by rcases hkr3 with ⟨h1, h2⟩ | ⟨h1, h2⟩
                    · exact Or.inr ⟨by omega, hkr.1, by omega⟩
                    · exact Or.inl ⟨by omega, hkn⟩)
              have hV_62 : (i 23 8).toInt = 0 ∧ (1 ≤ x.toInt ∧ x.toInt ≤ 3) ∧ rest im_48 r = ksum i r a9 (i 13 4).toInt.toNat ∧ ((0 < ksum i r a9 (i 13 4).toInt.toNat ∧ (im_48 23 8).toInt = 1) ∨ (ksum i r a9 (i 13 4).toInt.toNat ≤ 0 ∧ (im_48 23 8).toInt = 0)) := ⟨by omega, ⟨by omega, by omega⟩, hkr.2.1, by rcases hkr3 with ⟨h1, h2⟩ | ⟨h1, h2⟩; exact Or.inl ⟨h2, by omega⟩; exact Or.inr ⟨h2, by omega⟩⟩
              have hV_63 : ((im_48 23 10).toInt ≤ (i 23 10).toInt + 2) := (by omega)
              have hV_64 : SC i im_48 := hSCz
              refine vx_ret ?_
              exact sj_zret hx hb hr hlocks rfl hS im_48 ⟨hO_50, (fun a ha => ((hfr_49 a (by omega)).trans ((hfr_35 a (by omega)).trans ((hfr_j1 a (by omega)).trans (hfr_14 a (by omega)))))), hV_61, hV_62, hV_63, hV_64⟩ hH (sj_Knil hK) (Nat.le_of_ble_eq_true rfl) (Nat.le_of_ble_eq_true rfl) dX11_start_131
            · skip
              have h_65 := s_nle (rfl : (i 13 4).toInt = _) (rfl : f.toInt = _) c_19
              refine lv_aload_n hx hb dX11_start_57 rfl (lv_at hl 1 rfl) ?_
              refine h_getr (ci := 11) (C := RX11) (F := TX11) (N := 14) hx hb hts in11 hown hK hH (by decide) (rfl : kd 0 = 11) (by decide) rfl 2 (by decide) wd4 (fun _ h9 => h9) (by decide) rfl (t := 13) (hR 0 2 rfl) (by decide) dX11_start_58 ?_
              refine h_getr (ci := 1) (C := RX1) (F := TX1) (N := 5) hx hb hts in1 hown hK hH (by decide) (rfl : kd 13 = 1) (by decide) rfl 3 (by decide) wd7 (fun _ h9 => h9) (by decide) rfl (t := 18) (hR 13 3 rfl) (by decide) dX11_start_61 ?_
              refine lv_iload_n hx hb dX11_start_64 rfl (lv_at hl 0 rfl) ?_
              obtain ⟨j_66, ej_66, hj_66⟩ : ∃ j : Nat, (f).toNatClampNeg = j ∧ (j : Int) = f.toInt := ⟨_, rfl, by rw [s_cl (rfl : f.toInt = _)]; omega⟩
              have lj_66 : j_66 < 24 := by omega
              refine h_qald hx hb hK hH (by decide) (rfl : kd 18 = 18) (by decide) rfl (s_vin (N := 24) (rfl : f.toInt = _) (rfl : ln 18 = 24) (by omega) (by omega)) (t := (216 + 1 * j_66)) (by rw [ej_66]; exact (hR 18 j_66 rfl)) (lt_nK (by omega)) dX11_start_65 ?_
              refine lv_astore_n (lv' := [(3, .ref (g (216 + 1 * j_66))), (2, .int f), (0, .ref (g 0)), (1, .int x)]) hx hb dX11_start_66 rfl hl (by decide) rfl (fun ls hl => ?_)
              refine lv_aload_n hx hb dX11_start_67 rfl (lv_at hl 0 rfl) ?_
              refine lv_iconst (v := (-1)) hx hb dX11_start_68 (by decide) ?_
              have hO_67 := okp hO_j1 (n := (216 + 1 * j_66)) (k := 4) (v := (-1)) (by rw [bx_case (by omega) (by omega) 4]; exact (show (-1 : Int) ≤ ((-1) : Int32).toInt ∧ ((-1) : Int32).toInt ≤ 5 from ⟨by decide, by decide⟩))
              refine h_puti (ty := .int) (ci := 0) (C := RX0) (F := TX0) (N := 5) hx hb hts in0 tyX0 tyX0_ok nmX0 hown hK hH hS (lt_nK (by omega)) (kd_case (by omega) (by omega)) (by decide) rfl 4 (by decide) wd8 (fun _ h9 => h9) rfl (by decide +kernel) rfl rfl (by decide) rfl dX11_start_69 (fun H locs hH hS => ?_)
              refine lv_aload_n hx hb dX11_start_72 rfl (lv_at hl 2 rfl) ?_
              refine h_getr (ci := 11) (C := RX11) (F := TX11) (N := 14) hx hb hts in11 hown hK hH (by decide) (rfl : kd 0 = 11) (by decide) rfl 12 (by decide) wd9 (fun _ h9 => h9) (by decide) rfl (t := (357 + 2 * a9)) hr12 (lt_nK (by omega)) dX11_start_73 ?_
              refine lv_aload_n hx hb dX11_start_76 rfl (lv_at hl 0 rfl) ?_
              have bx_68 : (0 : Int) ≤ (j1 (216 + 1 * j_66) 3).toInt ∧ (j1 (216 + 1 * j_66) 3).toInt ≤ 65535 := by have h9 := hO_j1 (216 + 1 * j_66) 3; rw [bx_case (by omega) (by omega) 3] at h9; exact h9
              refine h_geti (ci := 0) (C := RX0) (F := TX0) (N := 5) hx hb hts in0 hown hK hH (lt_nK (by omega)) (kd_case (by omega) (by omega)) (by decide) rfl 3 (by decide) wd10 (fun _ h9 => h9) (by decide) rfl dX11_start_77 ?_
              refine sj_i (y := (j1 (216 + 1 * j_66) 3)) (up2_k _ _ (by decide)) ?_
              refine x_calli (va_runV (As := [.int (j1 (216 + 1 * j_66) 3)]) (rest := []) ⟨hx, hb, hml, hown, hts⟩ (k_holds l D g ka ad (up2 j1 (216 + 1 * j_66) 4 (-1)) r L d a9 (j1 (216 + 1 * j_66) 3) hO_67 hR H.size (by first | omega | decide) (hi_lp_17_2.trans (show SC j1 (up2 j1 (216 + 1 * j_66) 4 (-1)) from ⟨up2_n _ _ (by omega), congrArg Int32.toInt (up2_o _ _ (by omega)), tgE.of (fun a ha => up2_n _ _ (by omega)), fun c9 hc9 => up2_o _ _ (by omega), fun a ha => up2_n _ _ (by omega)⟩)).2.2.1.o (by omega) hTO |>.1) (cwV 1 hts gX11_start_X9_holds rfl rfl rfl (by decide +kernel) ⟨(Nat.le_of_ble_eq_true rfl), (Nat.le_of_ble_eq_true rfl)⟩) (x_preV (q := (RX9, TX9, 4)) hH hK (q_obj (lt_nK (by omega)) (kd_tag (show a9 < 11 by omega)) (by decide)) rfl gxb (gxw hE hS (x_F hH hS hA))) rfl rfl hl.1 rfl (lv_room (Nat.le_of_ble_eq_true rfl)) dX11_start_80 ⟨(Nat.le_of_ble_eq_true rfl), (Nat.le_of_ble_eq_true rfl)⟩) hH hS hA rfl rfl (fun r_69 im_71 H locs hw_70 hH hS => ?_)
              have hH : sj_H D A (hwc g ka im_71 r L d) H := hH
              obtain ⟨hO_73, hfr_72, hr_74, he_75, hx2_76⟩ := hw_70
              have hr_74 : (0 : Int) ≤ r_69.toInt ∧ r_69.toInt ≤ 1 := hr_74
              have hSCp : SC i (up2 j1 (216 + 1 * j_66) 4 (-1)) := hi_lp_17_2.trans (show SC j1 (up2 j1 (216 + 1 * j_66) 4 (-1)) from ⟨up2_n _ _ (by omega), congrArg Int32.toInt (up2_o _ _ (by omega)), tgE.of (fun a ha => up2_n _ _ (by omega)), fun c9 hc9 => up2_o _ _ (by omega), fun a ha => up2_n _ _ (by omega)⟩)
              have ho9 : tgO (up2 j1 (216 + 1 * j_66) 4 (-1)) a9 := hSCp.2.2.1.o (by omega) hTO
              have hv9 : r_69.toInt = (if tgH (up2 j1 (216 + 1 * j_66) 4 (-1)) a9 (j1 (216 + 1 * j_66) 3) = true then 1 else 0) := hold_tgH ho9 he_75.2 (fun b q hb => (hx2_76 q).1 b hb)
              rw [hSCp.2.2.1.h (by omega)] at hv9
              have htg : (j1 (216 + 1 * j_66) 3) = ctag i f.toInt.toNat := by rw [show f.toInt.toNat = j_66 by omega]; exact hi_lp_17_2.2.2.2.1 j_66 (by omega)
              rw [htg] at hv9
              refine lv_if_eq (tgt := 94) hx hb dX11_start_83 (by decide) (fun c_77 => ?_) (fun c_77 => ?_)
              · skip
                have h_78 := s_eq (rfl : r_69.toInt = _) (show (0 : Int32).toInt = 0 from rfl) c_77
                obtain ⟨z_79, ez_79, hz_79⟩ := s_add (rfl : f.toInt = _) (show (1 : Int32).toInt = 1 from rfl) (by omega) (by omega)
                refine lv_iinc (v := z_79) (lv' := [(2, .int z_79), (3, .ref (g (216 + 1 * j_66))), (0, .ref (g 0)), (1, .int x)]) hx hb dX11_start_94 hl (k := 1) rfl ez_79 (by decide) rfl (fun ls hl => ?_)
                refine lv_goto (tgt := 46) hx hb dX11_start_97 (by decide) ?_
                have hp_80 : (im_71 23 1).toInt = ((j1 23 1) : Int32).toInt := congrArg Int32.toInt (((congrFun (hfr_72 23 (by omega)) _).trans (congrFun (up2_n _ _ (by omega)) _)))
                have hp_81 : (im_71 23 2).toInt = ((j1 23 2) : Int32).toInt := congrArg Int32.toInt (((congrFun (hfr_72 23 (by omega)) _).trans (congrFun (up2_n _ _ (by omega)) _)))
                have hp_82 : (im_71 23 4).toInt = ((j1 23 4) : Int32).toInt := congrArg Int32.toInt (((congrFun (hfr_72 23 (by omega)) _).trans (congrFun (up2_n _ _ (by omega)) _)))
                have hp_83 : (im_71 23 5).toInt = ((j1 23 5) : Int32).toInt := congrArg Int32.toInt (((congrFun (hfr_72 23 (by omega)) _).trans (congrFun (up2_n _ _ (by omega)) _)))
                have hp_84 : (im_71 23 6).toInt = ((j1 23 6) : Int32).toInt := congrArg Int32.toInt (((congrFun (hfr_72 23 (by omega)) _).trans (congrFun (up2_n _ _ (by omega)) _)))
                have hp_85 : (im_71 23 7).toInt = ((j1 23 7) : Int32).toInt := congrArg Int32.toInt (((congrFun (hfr_72 23 (by omega)) _).trans (congrFun (up2_n _ _ (by omega)) _)))
                have hp_86 : (im_71 23 8).toInt = ((j1 23 8) : Int32).toInt := congrArg Int32.toInt (((congrFun (hfr_72 23 (by omega)) _).trans (congrFun (up2_n _ _ (by omega)) _)))
                have hp_87 : (im_71 23 10).toInt = ((j1 23 10) : Int32).toInt := congrArg Int32.toInt (((congrFun (hfr_72 23 (by omega)) _).trans (congrFun (up2_n _ _ (by omega)) _)))
                have hp_88 : (im_71 23 1).toInt = ((j1 23 1) : Int32).toInt := congrArg Int32.toInt (((congrFun (hfr_72 23 (by omega)) _).trans (congrFun (up2_n _ _ (by omega)) _)))
                have hp_89 : (im_71 23 2).toInt = ((j1 23 2) : Int32).toInt := congrArg Int32.toInt (((congrFun (hfr_72 23 (by omega)) _).trans (congrFun (up2_n _ _ (by omega)) _)))
                have hp_90 : (im_71 23 4).toInt = ((j1 23 4) : Int32).toInt := congrArg Int32.toInt (((congrFun (hfr_72 23 (by omega)) _).trans (congrFun (up2_n _ _ (by omega)) _)))
                have hp_91 : (im_71 23 5).toInt = ((j1 23 5) : Int32).toInt := congrArg Int32.toInt (((congrFun (hfr_72 23 (by omega)) _).trans (congrFun (up2_n _ _ (by omega)) _)))
                have hp_92 : (im_71 23 6).toInt = ((j1 23 6) : Int32).toInt := congrArg Int32.toInt (((congrFun (hfr_72 23 (by omega)) _).trans (congrFun (up2_n _ _ (by omega)) _)))
                have hp_93 : (im_71 23 7).toInt = ((j1 23 7) : Int32).toInt := congrArg Int32.toInt (((congrFun (hfr_72 23 (by omega)) _).trans (congrFun (up2_n _ _ (by omega)) _)))
                have hp_94 : (im_71 23 8).toInt = ((j1 23 8) : Int32).toInt := congrArg Int32.toInt (((congrFun (hfr_72 23 (by omega)) _).trans (congrFun (up2_n _ _ (by omega)) _)))
                have hp_95 : (im_71 23 10).toInt = ((j1 23 10) : Int32).toInt := congrArg Int32.toInt (((congrFun (hfr_72 23 (by omega)) _).trans (congrFun (up2_n _ _ (by omega)) _)))
                have hp_96 : (im_71 23 1).toInt = ((j1 23 1) : Int32).toInt := congrArg Int32.toInt (((congrFun (hfr_72 23 (by omega)) _).trans (congrFun (up2_n _ _ (by omega)) _)))
                have hp_97 : (im_71 23 2).toInt = ((j1 23 2) : Int32).toInt := congrArg Int32.toInt (((congrFun (hfr_72 23 (by omega)) _).trans (congrFun (up2_n _ _ (by omega)) _)))
                have hp_98 : (im_71 23 4).toInt = ((j1 23 4) : Int32).toInt := congrArg Int32.toInt (((congrFun (hfr_72 23 (by omega)) _).trans (congrFun (up2_n _ _ (by omega)) _)))
                have hp_99 : (im_71 23 5).toInt = ((j1 23 5) : Int32).toInt := congrArg Int32.toInt (((congrFun (hfr_72 23 (by omega)) _).trans (congrFun (up2_n _ _ (by omega)) _)))
                have hp_100 : (im_71 23 6).toInt = ((j1 23 6) : Int32).toInt := congrArg Int32.toInt (((congrFun (hfr_72 23 (by omega)) _).trans (congrFun (up2_n _ _ (by omega)) _)))
                have hp_101 : (im_71 23 7).toInt = ((j1 23 7) : Int32).toInt := congrArg Int32.toInt (((congrFun (hfr_72 23 (by omega)) _).trans (congrFun (up2_n _ _ (by omega)) _)))
                have hp_102 : (im_71 23 8).toInt = ((j1 23 8) : Int32).toInt := congrArg Int32.toInt (((congrFun (hfr_72 23 (by omega)) _).trans (congrFun (up2_n _ _ (by omega)) _)))
                have hp_103 : (im_71 23 10).toInt = ((j1 23 10) : Int32).toInt := congrArg Int32.toInt (((congrFun (hfr_72 23 (by omega)) _).trans (congrFun (up2_n _ _ (by omega)) _)))
                have hno : tgH i a9 (ctag i f.toInt.toNat) = false := by
                    cases q : tgH i a9 (ctag i f.toInt.toNat) with
                    | true => rw [q] at hv9; simp at hv9; omega
                    | false => rfl
                have hp_104 : (im_71 23 1).toInt = ((j1 23 1) : Int32).toInt := congrArg Int32.toInt (((congrFun (hfr_72 23 (by omega)) _).trans (congrFun (up2_n _ _ (by omega)) _)))
                have hp_105 : (im_71 23 2).toInt = ((j1 23 2) : Int32).toInt := congrArg Int32.toInt (((congrFun (hfr_72 23 (by omega)) _).trans (congrFun (up2_n _ _ (by omega)) _)))
                have hp_106 : (im_71 23 4).toInt = ((j1 23 4) : Int32).toInt := congrArg Int32.toInt (((congrFun (hfr_72 23 (by omega)) _).trans (congrFun (up2_n _ _ (by omega)) _)))
                have hp_107 : (im_71 23 5).toInt = ((j1 23 5) : Int32).toInt := congrArg Int32.toInt (((congrFun (hfr_72 23 (by omega)) _).trans (congrFun (up2_n _ _ (by omega)) _)))
                have hp_108 : (im_71 23 6).toInt = ((j1 23 6) : Int32).toInt := congrArg Int32.toInt (((congrFun (hfr_72 23 (by omega)) _).trans (congrFun (up2_n _ _ (by omega)) _)))
                have hp_109 : (im_71 23 7).toInt = ((j1 23 7) : Int32).toInt := congrArg Int32.toInt (((congrFun (hfr_72 23 (by omega)) _).trans (congrFun (up2_n _ _ (by omega)) _)))
                have hp_110 : (im_71 23 8).toInt = ((j1 23 8) : Int32).toInt := congrArg Int32.toInt (((congrFun (hfr_72 23 (by omega)) _).trans (congrFun (up2_n _ _ (by omega)) _)))
                have hp_111 : (im_71 23 10).toInt = ((j1 23 10) : Int32).toInt := congrArg Int32.toInt (((congrFun (hfr_72 23 (by omega)) _).trans (congrFun (up2_n _ _ (by omega)) _)))
                exact ih_lp_17 z_79 _ _ _ ls (by omega) (by omega) (by omega) (quI_n hi_lp_17_1 (by omega) hz_79 hno (by omega) (((hfr_72 28 (by omega)).trans (up2_n _ _ (by omega))))) (hi_lp_17_2.trans ((show SC j1 (up2 j1 (216 + 1 * j_66) 4 (-1)) from ⟨up2_n _ _ (by omega), congrArg Int32.toInt (up2_o _ _ (by omega)), tgE.of (fun a ha => up2_n _ _ (by omega)), fun c9 hc9 => up2_o _ _ (by omega), fun a ha => up2_n _ _ (by omega)⟩).trans (show SC (up2 j1 (216 + 1 * j_66) 4 (-1)) im_71 from ⟨hfr_72 33 (by omega), congrArg Int32.toInt (congrFun (hfr_72 0 (by omega)) 11), tgE.one (by omega) hfr_72 he_75.1, fun c9 hc9 => congrFun (hfr_72 (216 + 1 * c9) (by omega)) 3, fun a ha => hfr_72 a (by omega)⟩))) (by omega) hO_73 (fun a ha => ((hfr_72 a (by omega)).trans ((up2_n _ _ (by omega)).trans (hfr_j1 a (by omega))))) (lv_sub hl [0, 2, 3] rfl) hH hS
              · skip
                have h_112 := s_ne (rfl : r_69.toInt = _) (show (0 : Int32).toInt = 0 from rfl) c_77
                refine lv_aload_n hx hb dX11_start_86 rfl (lv_at hl 2 rfl) ?_
                refine h_getr (ci := 11) (C := RX11) (F := TX11) (N := 14) hx hb hts in11 hown hK hH (by decide) (rfl : kd 0 = 11) (by decide) rfl 4 (by decide) wd0 (fun _ h9 => h9) (by decide) rfl (t := 23) (hR 0 4 rfl) (by decide) dX11_start_87 ?_
                refine lv_iload_n hx hb dX11_start_90 rfl (lv_at hl 1 rfl) ?_
                have hp_113 : (im_71 23 1).toInt = ((j1 23 1) : Int32).toInt := congrArg Int32.toInt (((congrFun (hfr_72 23 (by omega)) _).trans (congrFun (up2_n _ _ (by omega)) _)))
                have hp_114 : (im_71 23 2).toInt = ((j1 23 2) : Int32).toInt := congrArg Int32.toInt (((congrFun (hfr_72 23 (by omega)) _).trans (congrFun (up2_n _ _ (by omega)) _)))
                have hp_115 : (im_71 23 4).toInt = ((j1 23 4) : Int32).toInt := congrArg Int32.toInt (((congrFun (hfr_72 23 (by omega)) _).trans (congrFun (up2_n _ _ (by omega)) _)))
                have hp_116 : (im_71 23 5).toInt = ((j1 23 5) : Int32).toInt := congrArg Int32.toInt (((congrFun (hfr_72 23 (by omega)) _).trans (congrFun (up2_n _ _ (by omega)) _)))
                have hp_117 : (im_71 23 6).toInt = ((j1 23 6) : Int32).toInt := congrArg Int32.toInt (((congrFun (hfr_72 23 (by omega)) _).trans (congrFun (up2_n _ _ (by omega)) _)))
                have hp_118 : (im_71 23 7).toInt = ((j1 23 7) : Int32).toInt := congrArg Int32.toInt (((congrFun (hfr_72 23 (by omega)) _).trans (congrFun (up2_n _ _ (by omega)) _)))
                have hp_119 : (im_71 23 8).toInt = ((j1 23 8) : Int32).toInt := congrArg Int32.toInt (((congrFun (hfr_72 23 (by omega)) _).trans (congrFun (up2_n _ _ (by omega)) _)))
                have hp_120 : (im_71 23 10).toInt = ((j1 23 10) : Int32).toInt := congrArg Int32.toInt (((congrFun (hfr_72 23 (by omega)) _).trans (congrFun (up2_n _ _ (by omega)) _)))
                refine x_callv (va_runV (As := [.int f]) (rest := []) ⟨hx, hb, hml, hown, hts⟩ (k_enqueue l D g ka ad im_71 r L d f hO_73 hR H.size (by first | omega | decide) (by first | omega | decide) (by first | omega | decide)) (cwV 1 hts gX11_start_X7_enqueue rfl rfl rfl (by decide +kernel) ⟨(Nat.le_of_ble_eq_true rfl), (Nat.le_of_ble_eq_true rfl)⟩) (x_preV (q := (RX7, TX7, 11)) hH hK (q_obj (by decide) (rfl : kd 23 = 7) (by decide)) rfl gxb (gxw hE hS (x_F hH hS hA))) rfl rfl hl.1 rfl (lv_room (Nat.le_of_ble_eq_true rfl)) dX11_start_91 ⟨(Nat.le_of_ble_eq_true rfl), (Nat.le_of_ble_eq_true rfl)⟩) hH hS hA rfl rfl (fun im_123 H locs hw_122 hH hS => ?_)
                have hH : sj_H D A (hwc g ka im_123 r L d) H := hH
                obtain ⟨hO_125, hfr_124, he_126, hx2_127, hx2_128⟩ := hw_122
                obtain ⟨z_129, ez_129, hz_129⟩ := s_add (rfl : f.toInt = _) (show (1 : Int32).toInt = 1 from rfl) (by omega) (by omega)
                refine lv_iinc (v := z_129) (lv' := [(2, .int z_129), (3, .ref (g (216 + 1 * j_66))), (0, .ref (g 0)), (1, .int x)]) hx hb dX11_start_94 hl (k := 1) rfl ez_129 (by decide) rfl (fun ls hl => ?_)
                refine lv_goto (tgt := 46) hx hb dX11_start_97 (by decide) ?_
                have hp_130 : (im_123 23 1).toInt = ((im_123 23 1) : Int32).toInt := rfl
                have hp_131 : (im_123 23 2).toInt = ((im_123 23 2) : Int32).toInt := rfl
                have hp_132 : (im_123 23 4).toInt = ((im_123 23 4) : Int32).toInt := rfl
                have hp_133 : (im_123 23 5).toInt = ((im_123 23 5) : Int32).toInt := rfl
                have hp_134 : (im_123 23 6).toInt = ((im_123 23 6) : Int32).toInt := rfl
                have hp_135 : (im_123 23 7).toInt = ((im_123 23 7) : Int32).toInt := rfl
                have hp_136 : (im_123 23 8).toInt = ((im_123 23 8) : Int32).toInt := rfl
                have hp_137 : (im_123 23 10).toInt = ((im_123 23 10) : Int32).toInt := rfl
                have hp_138 : (im_123 23 1).toInt = ((im_123 23 1) : Int32).toInt := rfl
                have hp_139 : (im_123 23 2).toInt = ((im_123 23 2) : Int32).toInt := rfl
                have hp_140 : (im_123 23 4).toInt = ((im_123 23 4) : Int32).toInt := rfl
                have hp_141 : (im_123 23 5).toInt = ((im_123 23 5) : Int32).toInt := rfl
                have hp_142 : (im_123 23 6).toInt = ((im_123 23 6) : Int32).toInt := rfl
                have hp_143 : (im_123 23 7).toInt = ((im_123 23 7) : Int32).toInt := rfl
                have hp_144 : (im_123 23 8).toInt = ((im_123 23 8) : Int32).toInt := rfl
                have hp_145 : (im_123 23 10).toInt = ((im_123 23 10) : Int32).toInt := rfl
                have hp_146 : (im_123 23 1).toInt = ((im_123 23 1) : Int32).toInt := rfl
                have hp_147 : (im_123 23 2).toInt = ((im_123 23 2) : Int32).toInt := rfl
                have hp_148 : (im_123 23 4).toInt = ((im_123 23 4) : Int32).toInt := rfl
                have hp_149 : (im_123 23 5).toInt = ((im_123 23 5) : Int32).toInt := rfl
                have hp_150 : (im_123 23 6).toInt = ((im_123 23 6) : Int32).toInt := rfl
                have hp_151 : (im_123 23 7).toInt = ((im_123 23 7) : Int32).toInt := rfl
                have hp_152 : (im_123 23 8).toInt = ((im_123 23 8) : Int32).toInt := rfl
                have hp_153 : (im_123 23 10).toInt = ((im_123 23 10) : Int32).toInt := rfl
                have hyes : tgH i a9 (ctag i f.toInt.toNat) = true := by
                    cases q : tgH i a9 (ctag i f.toInt.toNat) with
                    | true => rfl
                    | false => rw [q] at hv9; simp at hv9; omega
                have hz28 : im_123 28 (j1 23 4).toInt.toNat = f := by have h9 := hx2_127; rw [(show (im_71 23 4).toInt = (j1 23 4).toInt from congrArg Int32.toInt (((congrFun (hfr_72 23 (by omega)) _).trans (congrFun (up2_n _ _ (by omega)) _))))] at h9; exact h9
                have hz29 : ∀ k : Nat, k ≠ (j1 23 4).toInt.toNat → im_123 28 k = j1 28 k := fun k hk => by have h9 := hx2_128 k (by rw [(show (im_71 23 4).toInt = (j1 23 4).toInt from congrArg Int32.toInt (((congrFun (hfr_72 23 (by omega)) _).trans (congrFun (up2_n _ _ (by omega)) _))))]; exact hk); rw [h9, (show im_71 28 = j1 28 from ((hfr_72 28 (by omega)).trans (up2_n _ _ (by omega))))]
                have hp_154 : (im_123 23 1).toInt = ((im_123 23 1) : Int32).toInt := rfl
                have hp_155 : (im_123 23 2).toInt = ((im_123 23 2) : Int32).toInt := rfl
                have hp_156 : (im_123 23 4).toInt = ((im_123 23 4) : Int32).toInt := rfl
                have hp_157 : (im_123 23 5).toInt = ((im_123 23 5) : Int32).toInt := rfl
                have hp_158 : (im_123 23 6).toInt = ((im_123 23 6) : Int32).toInt := rfl
                have hp_159 : (im_123 23 7).toInt = ((im_123 23 7) : Int32).toInt := rfl
                have hp_160 : (im_123 23 8).toInt = ((im_123 23 8) : Int32).toInt := rfl
                have hp_161 : (im_123 23 10).toInt = ((im_123 23 10) : Int32).toInt := rfl
                exact ih_lp_17 z_129 _ _ _ ls (by omega) (by omega) (by omega) (quI_y hi_lp_17_1 (by omega) hz_129 hyes (by omega) rfl hz28 hz29) (hi_lp_17_2.trans (((show SC j1 (up2 j1 (216 + 1 * j_66) 4 (-1)) from ⟨up2_n _ _ (by omega), congrArg Int32.toInt (up2_o _ _ (by omega)), tgE.of (fun a ha => up2_n _ _ (by omega)), fun c9 hc9 => up2_o _ _ (by omega), fun a ha => up2_n _ _ (by omega)⟩).trans (show SC (up2 j1 (216 + 1 * j_66) 4 (-1)) im_71 from ⟨hfr_72 33 (by omega), congrArg Int32.toInt (congrFun (hfr_72 0 (by omega)) 11), tgE.one (by omega) hfr_72 he_75.1, fun c9 hc9 => congrFun (hfr_72 (216 + 1 * c9) (by omega)) 3, fun a ha => hfr_72 a (by omega)⟩)).trans (show SC im_71 im_123 from ⟨hfr_124 33 (by omega), congrArg Int32.toInt (congrFun (hfr_124 0 (by omega)) 11), tgE.of (fun a ha => hfr_124 a (by omega)), fun c9 hc9 => congrFun (hfr_124 (216 + 1 * c9) (by omega)) 3, fun a ha => hfr_124 a (by omega)⟩))) (by omega) hO_125 (fun a ha => ((hfr_124 a (by omega)).trans ((hfr_72 a (by omega)).trans ((up2_n _ _ (by omega)).trans (hfr_j1 a (by omega)))))) (lv_sub hl [0, 2, 3] rfl) hH hS
        have hl_162 : (0 : Int32).toInt = 0 := rfl
        have hp_163 : (im_13 23 1).toInt = ((im_13 23 1) : Int32).toInt := rfl
        have hp_164 : (im_13 23 2).toInt = ((im_13 23 2) : Int32).toInt := rfl
        have hp_165 : (im_13 23 4).toInt = ((im_13 23 4) : Int32).toInt := rfl
        have hp_166 : (im_13 23 5).toInt = ((im_13 23 5) : Int32).toInt := rfl
        have hp_167 : (im_13 23 6).toInt = ((im_13 23 6) : Int32).toInt := rfl
        have hp_168 : (im_13 23 7).toInt = ((im_13 23 7) : Int32).toInt := rfl
        have hp_169 : (im_13 23 8).toInt = ((im_13 23 8) : Int32).toInt := rfl
        have hp_170 : (im_13 23 10).toInt = ((im_13 23 10) : Int32).toInt := rfl
        have hp_171 : (im_13 23 1).toInt = ((im_13 23 1) : Int32).toInt := rfl
        have hp_172 : (im_13 23 2).toInt = ((im_13 23 2) : Int32).toInt := rfl
        have hp_173 : (im_13 23 4).toInt = ((im_13 23 4) : Int32).toInt := rfl
        have hp_174 : (im_13 23 5).toInt = ((im_13 23 5) : Int32).toInt := rfl
        have hp_175 : (im_13 23 6).toInt = ((im_13 23 6) : Int32).toInt := rfl
        have hp_176 : (im_13 23 7).toInt = ((im_13 23 7) : Int32).toInt := rfl
        have hp_177 : (im_13 23 8).toInt = ((im_13 23 8) : Int32).toInt := rfl
        have hp_178 : (im_13 23 10).toInt = ((im_13 23 10) : Int32).toInt := rfl
        have hp_179 : (im_13 23 1).toInt = ((im_13 23 1) : Int32).toInt := rfl
        have hp_180 : (im_13 23 2).toInt = ((im_13 23 2) : Int32).toInt := rfl
        have hp_181 : (im_13 23 4).toInt = ((im_13 23 4) : Int32).toInt := rfl
        have hp_182 : (im_13 23 5).toInt = ((im_13 23 5) : Int32).toInt := rfl
        have hp_183 : (im_13 23 6).toInt = ((im_13 23 6) : Int32).toInt := rfl
        have hp_184 : (im_13 23 7).toInt = ((im_13 23 7) : Int32).toInt := rfl
        have hp_185 : (im_13 23 8).toInt = ((im_13 23 8) : Int32).toInt := rfl
        have hp_186 : (im_13 23 10).toInt = ((im_13 23 10) : Int32).toInt := rfl
        have hp_187 : (im_13 23 1).toInt = ((im_13 23 1) : Int32).toInt := rfl
        have hp_188 : (im_13 23 2).toInt = ((im_13 23 2) : Int32).toInt := rfl
        have hp_189 : (im_13 23 4).toInt = ((im_13 23 4) : Int32).toInt := rfl
        have hp_190 : (im_13 23 5).toInt = ((im_13 23 5) : Int32).toInt := rfl
        have hp_191 : (im_13 23 6).toInt = ((im_13 23 6) : Int32).toInt := rfl
        have hp_192 : (im_13 23 7).toInt = ((im_13 23 7) : Int32).toInt := rfl
        have hp_193 : (im_13 23 8).toInt = ((im_13 23 8) : Int32).toInt := rfl
        have hp_194 : (im_13 23 10).toInt = ((im_13 23 10) : Int32).toInt := rfl
        exact lp_17 _ 0 _ _ _ ls (Nat.lt_succ_self _) (by omega) (by omega) (quI_0 (by omega) (by rfl)) (show SC i im_13 from ⟨hfr_14 33 (by omega), congrArg Int32.toInt (congrFun (hfr_14 0 (by omega)) 11), tgE.of (fun a ha => hfr_14 a (by omega)), fun c9 hc9 => congrFun (hfr_14 (216 + 1 * c9) (by omega)) 3, fun a ha => hfr_14 a (by omega)⟩) (by omega) hO_15 (fun a ha => rfl) (lv_sub hl [0, 1, 2] rfl) hH hS
      · skip
        have h_195 := s_nle (rfl : x.toInt = _) (show (3 : Int32).toInt = 3 from rfl) c_9
        have hV_196 : i = i ∧ ((i 23 8).toInt = 1 ∨ ((i 23 8).toInt = 0 ∧ (x.toInt < 1 ∨ 3 < x.toInt))) := ⟨rfl, by omega⟩
        have hpx : (fun (E : String) (u : (Nat → Nat → Int32)) => OkI u ∧ (∀ a, ¬ (a = 23 ∨ (25 ≤ a ∧ a < 28) ∨ a = 28 ∨ a = 29 ∨ (216 ≤ a ∧ a < 240) ∨ (375 ≤ a ∧ a < 379)) → u a = i a) ∧ (u = i ∧ ((i 23 8).toInt = 1 ∨ ((i 23 8).toInt = 0 ∧ (x.toInt < 1 ∨ 3 < x.toInt))))) "java/lang/IllegalArgumentException" i := ⟨hO, (fun a ha => rfl), hV_196⟩
        have hHx : sj_H D A ((fun (u : (Nat → Nat → Int32)) => hwc g ka u r L d) i) s.heap := hH
        exact x_throw (px := (fun (E : String) (u : (Nat → Nat → Int32)) => OkI u ∧ (∀ a, ¬ (a = 23 ∨ (25 ≤ a ∧ a < 28) ∨ a = 28 ∨ a = 29 ∨ (216 ≤ a ∧ a < 240) ∨ (375 ≤ a ∧ a < 379)) → u a = i a) ∧ (u = i ∧ ((i 23 8).toInt = 1 ∨ ((i 23 8).toInt = 0 ∧ (x.toInt < 1 ∨ 3 < x.toInt)))))) (W1 := (fun (u : (Nat → Nat → Int32)) => hwc g ka u r L d)) hx hb hst (ik := 124) (ic := 126) (cls := "java/lang/IllegalArgumentException") i hpx hown (by decide) wd2 wd3 (fun w h => hts w (thr_126 w h)) (by decide +kernel) (by decide +kernel) (gx_iae hE) hS hHx hK (hl.1.trans hml.symm) dX11_start_28 dX11_start_31 dX11_start_32 dX11_start_35 hnt (Nat.le_of_ble_eq_true rfl) (Nat.le_of_ble_eq_true rfl) (Nat.le_of_ble_eq_true rfl) (Nat.le_of_ble_eq_true rfl) hlocks (Nat.le_of_ble_eq_true rfl) (Nat.le_of_ble_eq_true rfl)
  · skip
    have h_197 := s_ne (rfl : (i 23 8).toInt = _) (show (0 : Int32).toInt = 0 from rfl) c_3
    have hV_198 : i = i ∧ ((i 23 8).toInt = 1 ∨ ((i 23 8).toInt = 0 ∧ (x.toInt < 1 ∨ 3 < x.toInt))) := ⟨rfl, by omega⟩
    have hpx : (fun (E : String) (u : (Nat → Nat → Int32)) => OkI u ∧ (∀ a, ¬ (a = 23 ∨ (25 ≤ a ∧ a < 28) ∨ a = 28 ∨ a = 29 ∨ (216 ≤ a ∧ a < 240) ∨ (375 ≤ a ∧ a < 379)) → u a = i a) ∧ (u = i ∧ ((i 23 8).toInt = 1 ∨ ((i 23 8).toInt = 0 ∧ (x.toInt < 1 ∨ 3 < x.toInt))))) "java/lang/IllegalStateException" i := ⟨hO, (fun a ha => rfl), hV_198⟩
    have hHx : sj_H D A ((fun (u : (Nat → Nat → Int32)) => hwc g ka u r L d) i) s.heap := hH
    exact x_throw (px := (fun (E : String) (u : (Nat → Nat → Int32)) => OkI u ∧ (∀ a, ¬ (a = 23 ∨ (25 ≤ a ∧ a < 28) ∨ a = 28 ∨ a = 29 ∨ (216 ≤ a ∧ a < 240) ∨ (375 ≤ a ∧ a < 379)) → u a = i a) ∧ (u = i ∧ ((i 23 8).toInt = 1 ∨ ((i 23 8).toInt = 0 ∧ (x.toInt < 1 ∨ 3 < x.toInt)))))) (W1 := (fun (u : (Nat → Nat → Int32)) => hwc g ka u r L d)) hx hb hst (ik := 92) (ic := 94) (cls := "java/lang/IllegalStateException") i hpx hown (by decide) wd11 wd12 (fun w h => hts w (thr_94 w h)) (by decide +kernel) (by decide +kernel) (gx_ise hE) hS hHx hK (hl.1.trans hml.symm) dX11_start_10 dX11_start_13 dX11_start_14 dX11_start_17 hnt (Nat.le_of_ble_eq_true rfl) (Nat.le_of_ble_eq_true rfl) (Nat.le_of_ble_eq_true rfl) (Nat.le_of_ble_eq_true rfl) hlocks (Nat.le_of_ble_eq_true rfl) (Nat.le_of_ble_eq_true rfl)
