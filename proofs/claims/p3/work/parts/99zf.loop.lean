theorem dL_law_790 : decode cL_law 790 = .ok (.iconst 1, 1) := by decide +kernel
theorem dL_law_791 : decode cL_law 791 = .ok (.ireturn, 1) := by decide +kernel
theorem dL_law_33 : decode cL_law 33 = .ok (.aload_n 0, 1) := by decide +kernel
theorem dL_law_34 : decode cL_law 34 = .ok (.iload 4, 2) := by decide +kernel
theorem dL_law_36 : decode cL_law 36 = .ok (.iaload, 1) := by decide +kernel
theorem dL_law_37 : decode cL_law 37 = .ok (.bipush 15, 2) := by decide +kernel
theorem dL_law_39 : decode cL_law 39 = .ok (.iand, 1) := by decide +kernel
theorem dL_law_40 : decode cL_law 40 = .ok (.tableswitch 744 0 15 #[80, 149, 193, 233, 261, 317, 333, 382, 422, 474, 526, 602, 630, 655, 692, 719], 80) := by decide +kernel
theorem dL_law_23 : decode cL_law 23 = .ok (.iload 4, 2) := by decide +kernel
theorem dL_law_25 : decode cL_law 25 = .ok (.aload_n 0, 1) := by decide +kernel
theorem dL_law_26 : decode cL_law 26 = .ok (.arraylength, 1) := by decide +kernel
theorem dL_law_27 : decode cL_law 27 = .ok (.bipush 6, 2) := by decide +kernel
theorem dL_law_29 : decode cL_law 29 = .ok (.isub, 1) := by decide +kernel
theorem dL_law_30 : decode cL_law 30 = .ok (.if_icmp .gt 760, 3) := by decide +kernel
theorem dL_law_784 : decode cL_law 784 = .ok (.iinc 4 6, 3) := by decide +kernel
theorem dL_law_787 : decode cL_law 787 = .ok (.goto (-764), 3) := by decide +kernel
set_option maxRecDepth 100000 in
theorem lw_end {p : Program} {l : Launch} {e : Env} {s : State} {m : MethodId} {below : List Frame} {meth : Method} {c : Code} {b : Nat} {A : Nat → Prop} {H : Heap} {locs : List Loc} {ls : Array Slot} {cells slots : Nat} (hx : p.tables.exec = Jvm.exec) (hb : c.code = cL_law) (hr : meth.sig.returnType = ret) (hlocks : meth.locks = false) (hAd : A = fun q => s.heap.size ≤ q) (hc : cells ≤ 601024) (hs : slots ≤ 7293034) (hS : va_S A s.heap H locs) : W p l e room_1 s m #[Value.ref b] below meth c H locs (cells) (slots) (lw_Z below #[Value.ref b] s) (F0 m 790 ls []) := by
  refine lv_iconst (v := 1) hx hb dL_law_790 (by decide) ?_
  refine va_forget (fun q hq => by have h9 := hS.2.2 q hq; rw [hAd] at h9; exact h9) ?_
  refine W.widen (k := 601024) (n := 7293034) hc hs ?_
  exact lw_ret hx hb hr hlocks dL_law_791
set_option maxHeartbeats 4000000 in
set_option maxRecDepth 100000 in
theorem lw_turn {p : Program} {l : Launch} {e : Env} {s : State} {m : MethodId} {below : List Frame} {meth : Method} {c : Code} {b Lx : Nat} {xs : Nat → Int32} {A : Nat → Prop} {D : va_G} {g : Nat → Nat} {ka : Nat → ClassId} {ad : Nat → Nat} (hl0 : l.stackTraces = false) (hx : p.tables.exec = Jvm.exec) (hb : c.code = cL_law) (hr : meth.sig.returnType = ret) (hlocks : meth.locks = false) (hml : c.maxLocals = 9) (hown : s.vm.findClass RL = some m.cls) (hts : ∀ w ∈ wsL_law, w.before #[Value.ref b] s = true) (hX : va_X b Lx xs s s.heap) (hbl : b < s.heap.size) (hbA : ¬ A b) (hA : ∀ q, s.heap.size ≤ q → A q) (hE : gxh ad A s) (hK : va_K D vwCl (hT ka) s) {i : Nat → Nat → Int32} {r : Nat → Nat → Nat} {L : Nat → Nat → Int64} {d : Nat → Nat → UInt64} {H : Heap} {locs : List Loc} {ls : Array Slot} {cells slots n : Nat} {f : Int32} (hf0 : 0 ≤ f.toInt) (hq1 : f.toInt + 6 ≤ (Lx : Int)) (hLx : Lx ≤ 3072) (hn : n ≤ 600) (hcc : cells ≤ 600000) (hcs : slots ≤ 7000000) (hLR : LRX i r d n) (hH : sj_H D A (hwc g ka i r L d) H) (hS : va_S A s.heap H locs) (hl : lv_has ls 9 [(4, .int f), (3, .ref (g 35)), (2, .ref (g 36)), (1, .ref (g 0)), (0, .ref b)]) (hk : ∀ (i : Nat → Nat → Int32) (r : Nat → Nat → Nat) (L : Nat → Nat → Int64) (d : Nat → Nat → UInt64) (H : Heap) (locs : List Loc) (ls : Array Slot), LRX i r d (n + 1) → sj_H D A (hwc g ka i r L d) H → va_S A s.heap H locs → lv_has ls 9 [(4, .int f), (3, .ref (g 35)), (2, .ref (g 36)), (1, .ref (g 0)), (0, .ref b)] → W p l e room_1 s m #[Value.ref b] below meth c H locs (cells + 1) (slots + 6) (lw_Z below #[Value.ref b] s) (F0 m 784 ls [])) : W p l e room_1 s m #[Value.ref b] below meth c H locs (cells) (slots) (lw_Z below #[Value.ref b] s) (F0 m 33 ls []) := by
  refine lv_aload_n hx hb dL_law_33 rfl (lv_at hl 4 rfl) ?_
  refine lv_iload hx hb dL_law_34 (lv_at hl 0 rfl) ?_
  refine va_sld hx hb hX hbl hbA hS (s_vinL rfl hf0 (by omega)) dL_law_36 ?_
  refine lv_bipush (v := 15) hx hb dL_law_37 (by decide) ?_
  refine lv_iand hx hb dL_law_39 ?_
  obtain ⟨j, hj, ej⟩ := pk_andE (xs f.toNatClampNeg) (m := 15) 4 (by decide +kernel)
  refine sj_i ej ?_
  rcases (show j = 0 ∨ j = 1 ∨ j = 2 ∨ j = 3 ∨ j = 4 ∨ j = 5 ∨ j = 6 ∨ j = 7 ∨ j = 8 ∨ j = 9 ∨ j = 10 ∨ j = 11 ∨ j = 12 ∨ j = 13 ∨ j = 14 ∨ j = 15 by omega) with rfl | rfl | rfl | rfl | rfl | rfl | rfl | rfl | rfl | rfl | rfl | rfl | rfl | rfl | rfl | rfl
  · refine lv_tableIn (tgt := 120) hx hb dL_law_40 (by decide) (by decide) rfl (by decide) ?_
    exact lop_0 hl0 hx hb hr hlocks hml hown hts hX hbl hbA hA hE hK hf0 hq1 hLx (by omega) (by omega) (by omega) hLR hH hS hl hk
  · refine lv_tableIn (tgt := 189) hx hb dL_law_40 (by decide) (by decide) rfl (by decide) ?_
    exact lop_1 hl0 hx hb hr hlocks hml hown hts hX hbl hbA hA hE hK hf0 hq1 hLx (by omega) (by omega) (by omega) hLR hH hS hl hk
  · refine lv_tableIn (tgt := 233) hx hb dL_law_40 (by decide) (by decide) rfl (by decide) ?_
    exact lop_2 hl0 hx hb hr hlocks hml hown hts hX hbl hbA hA hE hK hf0 hq1 hLx (by omega) (by omega) (by omega) hLR hH hS hl hk
  · refine lv_tableIn (tgt := 273) hx hb dL_law_40 (by decide) (by decide) rfl (by decide) ?_
    exact lop_3 hl0 hx hb hr hlocks hml hown hts hX hbl hbA hA hE hK hf0 hq1 hLx (by omega) (by omega) (by omega) hLR hH hS hl hk
  · refine lv_tableIn (tgt := 301) hx hb dL_law_40 (by decide) (by decide) rfl (by decide) ?_
    exact lop_4 hl0 hx hb hr hlocks hml hown hts hX hbl hbA hA hE hK hf0 hq1 hLx (by omega) (by omega) (by omega) hLR hH hS hl hk
  · refine lv_tableIn (tgt := 357) hx hb dL_law_40 (by decide) (by decide) rfl (by decide) ?_
    exact lop_5 hl0 hx hb hr hlocks hml hown hts hX hbl hbA hA hE hK hf0 hq1 hLx (by omega) (by omega) (by omega) hLR hH hS hl hk
  · refine lv_tableIn (tgt := 373) hx hb dL_law_40 (by decide) (by decide) rfl (by decide) ?_
    exact lop_6 hl0 hx hb hr hlocks hml hown hts hX hbl hbA hA hE hK hf0 hq1 hLx (by omega) (by omega) (by omega) hLR hH hS hl hk
  · refine lv_tableIn (tgt := 422) hx hb dL_law_40 (by decide) (by decide) rfl (by decide) ?_
    exact lop_7 hl0 hx hb hr hlocks hml hown hts hX hbl hbA hA hE hK hf0 hq1 hLx (by omega) (by omega) (by omega) hLR hH hS hl hk
  · refine lv_tableIn (tgt := 462) hx hb dL_law_40 (by decide) (by decide) rfl (by decide) ?_
    exact lop_8 hl0 hx hb hr hlocks hml hown hts hX hbl hbA hA hE hK hf0 hq1 hLx (by omega) (by omega) (by omega) hLR hH hS hl hk
  · refine lv_tableIn (tgt := 514) hx hb dL_law_40 (by decide) (by decide) rfl (by decide) ?_
    exact lop_9 hl0 hx hb hr hlocks hml hown hts hX hbl hbA hA hE hK hf0 hq1 hLx (by omega) (by omega) (by omega) hLR hH hS hl hk
  · refine lv_tableIn (tgt := 566) hx hb dL_law_40 (by decide) (by decide) rfl (by decide) ?_
    exact lop_10 hl0 hx hb hr hlocks hml hown hts hX hbl hbA hA hE hK hf0 hq1 hLx (by omega) (by omega) (by omega) hLR hH hS hl hk
  · refine lv_tableIn (tgt := 642) hx hb dL_law_40 (by decide) (by decide) rfl (by decide) ?_
    exact lop_11 hl0 hx hb hr hlocks hml hown hts hX hbl hbA hA hE hK hf0 hq1 hLx (by omega) (by omega) (by omega) hLR hH hS hl hk
  · refine lv_tableIn (tgt := 670) hx hb dL_law_40 (by decide) (by decide) rfl (by decide) ?_
    exact lop_12 hl0 hx hb hr hlocks hml hown hts hX hbl hbA hA hE hK hf0 hq1 hLx (by omega) (by omega) (by omega) hLR hH hS hl hk
  · refine lv_tableIn (tgt := 695) hx hb dL_law_40 (by decide) (by decide) rfl (by decide) ?_
    exact lop_13 hl0 hx hb hr hlocks hml hown hts hX hbl hbA hA hE hK hf0 hq1 hLx (by omega) (by omega) (by omega) hLR hH hS hl hk
  · refine lv_tableIn (tgt := 732) hx hb dL_law_40 (by decide) (by decide) rfl (by decide) ?_
    exact lop_14 hl0 hx hb hr hlocks hml hown hts hX hbl hbA hA hE hK hf0 hq1 hLx (by omega) (by omega) (by omega) hLR hH hS hl hk
  · refine lv_tableIn (tgt := 759) hx hb dL_law_40 (by decide) (by decide) rfl (by decide) ?_
    exact lop_15 hl0 hx hb hr hlocks hml hown hts hX hbl hbA hA hE hK hf0 hq1 hLx (by omega) (by omega) (by omega) hLR hH hS hl hk
set_option maxHeartbeats 4000000 in
set_option maxRecDepth 100000 in
theorem lw_loop {p : Program} {l : Launch} {e : Env} {s : State} {m : MethodId} {below : List Frame} {meth : Method} {c : Code} {b Lx : Nat} {xs : Nat → Int32} {A : Nat → Prop} {D : va_G} {g : Nat → Nat} {ka : Nat → ClassId} {ad : Nat → Nat} (hl0 : l.stackTraces = false) (hx : p.tables.exec = Jvm.exec) (hb : c.code = cL_law) (hr : meth.sig.returnType = ret) (hlocks : meth.locks = false) (hml : c.maxLocals = 9) (hown : s.vm.findClass RL = some m.cls) (hts : ∀ w ∈ wsL_law, w.before #[Value.ref b] s = true) (hX : va_X b Lx xs s s.heap) (hbl : b < s.heap.size) (hbA : ¬ A b) (hA : ∀ q, s.heap.size ≤ q → A q) (hE : gxh ad A s) (hK : va_K D vwCl (hT ka) s) (hAd : A = fun q => s.heap.size ≤ q) (hLx : Lx ≤ 3072) : ∀ (k : Nat) (i : Nat → Nat → Int32) (r : Nat → Nat → Nat) (L : Nat → Nat → Int64) (d : Nat → Nat → UInt64) (H : Heap) (locs : List Loc) (ls : Array Slot) (n : Nat) (f : Int32), Lx ≤ 6 * n + k → f.toInt = ((6 * n : Nat) : Int) → 6 * n ≤ Lx → LRX i r d n → sj_H D A (hwc g ka i r L d) H → va_S A s.heap H locs → lv_has ls 9 [(4, .int f), (3, .ref (g 35)), (2, .ref (g 36)), (1, .ref (g 0)), (0, .ref b)] → W p l e room_1 s m #[Value.ref b] below meth c H locs (430 + n) (22797 + 6 * n) (lw_Z below #[Value.ref b] s) (F0 m 23 ls []) := by
  intro k
  induction k with
  | zero =>
    intro i r L d H locs ls n f hk1 hf hn hLR hH hS hl
    obtain ⟨z, hz, hz2⟩ := s_sub (x := Int32.ofNat Lx) (y := 6) (s_nIt (by omega)) (show (6 : Int32).toInt = 6 from rfl) (by omega) (by omega)
    refine lv_iload hx hb dL_law_23 (lv_at hl 0 rfl) ?_
    refine lv_aload_n hx hb dL_law_25 rfl (lv_at hl 4 rfl) ?_
    refine va_slen hx hb hX hbl hbA hS dL_law_26 ?_
    refine lv_bipush (v := 6) hx hb dL_law_27 (by decide) ?_
    refine lv_isub hx hb dL_law_29 ?_
    refine sj_i hz ?_
    refine lv_icmp_gt (tgt := 790) hx hb dL_law_30 (by decide) (fun _ => ?_) (fun c9 => absurd (p_lt hz2 hf (by omega)) c9)
    exact lw_end hx hb hr hlocks hAd (by omega) (by omega) hS
  | succ k ih =>
    intro i r L d H locs ls n f hk1 hf hn hLR hH hS hl
    obtain ⟨z, hz, hz2⟩ := s_sub (x := Int32.ofNat Lx) (y := 6) (s_nIt (by omega)) (show (6 : Int32).toInt = 6 from rfl) (by omega) (by omega)
    refine lv_iload hx hb dL_law_23 (lv_at hl 0 rfl) ?_
    refine lv_aload_n hx hb dL_law_25 rfl (lv_at hl 4 rfl) ?_
    refine va_slen hx hb hX hbl hbA hS dL_law_26 ?_
    refine lv_bipush (v := 6) hx hb dL_law_27 (by decide) ?_
    refine lv_isub hx hb dL_law_29 ?_
    refine sj_i hz ?_
    refine lv_icmp_gt (tgt := 790) hx hb dL_law_30 (by decide) (fun _ => ?_) (fun c9 => ?_)
    · exact lw_end hx hb hr hlocks hAd (by omega) (by omega) hS
    · have hq1 : f.toInt + 6 ≤ (Lx : Int) := by
        by_cases q : (Lx : Int) - 6 < f.toInt
        · exact absurd (p_lt hz2 rfl q) c9
        · omega
      refine lw_turn hl0 hx hb hr hlocks hml hown hts hX hbl hbA hA hE hK (by omega) hq1 hLx (by omega) (by omega) (by omega) hLR hH hS hl (fun i r L d H locs ls hLR hH hS hl => ?_)
      obtain ⟨y, hy, hy2⟩ := s_add (x := f) (y := 6) hf (show (6 : Int32).toInt = 6 from rfl) (by omega) (by omega)
      refine lv_iinc (v := y) (lv' := [(4, .int y), (3, .ref (g 35)), (2, .ref (g 36)), (1, .ref (g 0)), (0, .ref b)]) hx hb dL_law_784 hl (k := 0) rfl hy (by decide) rfl (fun ls hl => ?_)
      refine lv_goto (tgt := 23) hx hb dL_law_787 (by decide) ?_
      have e1 : 430 + n + 1 = 430 + (n + 1) := by omega
      have e2 : 22797 + 6 * n + 6 = 22797 + 6 * (n + 1) := by omega
      rw [e1, e2]
      exact ih i r L d H locs ls (n + 1) y (by omega) (by rw [hy2]; omega) (by omega) hLR hH hS hl
