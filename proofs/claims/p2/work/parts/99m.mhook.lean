/-- what the text says of tags -/
def mTx (i : Nat → Nat → Int32) : List Int := tgL (i 379) 0 (i 36 2).toInt.toNat
def mTk (i : Nat → Nat → Int32) : Prop := (i 36 2).toInt ≤ 40 ∧ (sqz (mTx i) = [] ∨ mr (tb 0) (mTx i) true [] [] ≠ none)
theorem mTk_v {i : Nat → Nat → Int32} {z v : Int} (e : z = (i 36 2).toInt) (h1 : 40 < z → v = -1) (h2 : z ≤ 40 → sqz (tgL (i 379) 0 z.toNat) = [] → v = 1) (h3 : z ≤ 40 → sqz (tgL (i 379) 0 z.toNat) ≠ [] → ((mr (tb 0) (tgL (i 379) 0 z.toNat) true [] [] = none → v = -1) ∧ (∀ b : Bool, mr (tb 0) (tgL (i 379) 0 z.toNat) true [] [] = some b → v = (if b then 1 else 0)))) : (0 ≤ v ∧ mTk i) ∨ (v < 0 ∧ ¬ mTk i) := by
  subst e
  by_cases q : 40 < (i 36 2).toInt
  · exact Or.inr ⟨by rw [h1 q]; decide, fun h => by have := h.1; omega⟩
  · by_cases q2 : sqz (tgL (i 379) 0 (i 36 2).toInt.toNat) = []
    · exact Or.inl ⟨by rw [h2 (by omega) q2]; decide, by omega, Or.inl q2⟩
    · obtain ⟨g1, g2⟩ := h3 (by omega) q2
      cases hb : mr (tb 0) (tgL (i 379) 0 (i 36 2).toInt.toNat) true [] [] with
      | none => exact Or.inr ⟨by rw [g1 hb]; decide, fun h => h.2.elim (fun a => q2 a) (fun a => a hb)⟩
      | some b => exact Or.inl ⟨by rw [g2 b hb]; cases b <;> decide, by omega, Or.inr (fun a => by rw [show mTx i = tgL (i 379) 0 (i 36 2).toInt.toNat from rfl, hb] at a; exact absurd a (by simp))⟩
theorem tgLM_new {i u : Nat → Nat → Int32} {x : Int} (h0 : 0 ≤ x) (hz : 0 ≤ (i 36 2).toInt) (h17 : (u 417 x.toNat).toInt = (i 36 2).toInt) (hI : ∀ k : Nat, (k : Int) < (i 36 2).toInt → (u 416 ((40 * x).toNat + k)).toInt = (i 379 k).toInt) : tgLM u x.toNat = mTx i := by
  unfold tgLM mTx
  rw [h17]
  exact tgL_ext _ _ _ (fun j hj => by
    have h9 := hI j (by omega)
    rw [show 40 * x.toNat + j = (40 * x).toNat + j by omega, h9, Nat.zero_add])
theorem tgLM_old {i u : Nat → Nat → Int32} {x : Int} (h0 : 0 ≤ x) (hb : ∀ k, (i 417 k).toInt ≤ 40) (h17 : ∀ k : Nat, k ≠ x.toNat → u 417 k = i 417 k) (hU : ∀ k : Nat, ((k : Int) < 40 * x ∨ 40 * x + 40 ≤ (k : Int)) → u 416 k = i 416 k) (h : Nat) (hh : h ≠ x.toNat) : tgLM u h = tgLM i h := by
  unfold tgLM
  rw [h17 h hh]
  have h8 := hb h
  exact tgL_ext _ _ _ (fun j hj => by rw [hU (40 * h + j) (by omega)])
/-- a hook is kept, or not -/
def hkM (i u : Nat → Nat → Int32) (x y : Int) : Prop := (¬ (mTk i ∧ (0 ≤ y ∧ y < 8) ∧ (i 36 67).toInt < 8) ∧ u 36 67 = i 36 67 ∧ u 416 = i 416 ∧ u 417 = i 417 ∧ u 420 = i 420) ∨ ((mTk i ∧ (0 ≤ y ∧ y < 8) ∧ (i 36 67).toInt < 8) ∧ (u 36 67).toInt = (i 36 67).toInt + 1 ∧ tgLM u (i 36 67).toInt.toNat = mTx i ∧ (u 420 (i 36 67).toInt.toNat).toInt = x ∧ ∀ h : Nat, h ≠ (i 36 67).toInt.toNat → tgLM u h = tgLM i h ∧ u 420 h = i 420 h)
/-- a filter is kept, or not -/
def ftM (i u : Nat → Nat → Int32) : Prop := (¬ mTk i ∧ u 416 = i 416 ∧ u 417 = i 417) ∨ (mTk i ∧ tgLM u 8 = mTx i ∧ ∀ h : Nat, h ≠ 8 → tgLM u h = tgLM i h)
/-- a run begins -/
def mxG (i u : Nat → Nat → Int32) : Prop := (mwrF u = mwrF i ∧ mcw u = mcw i ∧ mcM u = mcM i) ∧ u 36 33 = i 36 33
theorem mxG_of {i u : Nat → Nat → Int32} (e : ldE i u) (e33 : u 36 33 = i 36 33) (e67 : u 36 67 = i 36 67) (e4 : u 400 = i 400) (e0 : u 420 = i 420) (e6 : u 416 = i 416) (e7 : u 417 = i 417) : mxG i u := by
  have h1 : mdP u = mdP i := funext fun b => funext fun c => funext fun h => by unfold mdP; rw [e4, mdue_fr e67 e0 e6 e7]
  have h2 : mcs u = mcs i := funext fun c => mcs_ld e c
  exact ⟨⟨funext fun c => funext fun n => by unfold mwrF; rw [h1, h2], mcw_fr e4 e6 e7, funext fun c => by unfold mcM; rw [h1, h2]⟩, e33⟩
theorem murem_g {i u : Nat → Nat → Int32} (h : mxG i u) (v : Int) : murem u v = murem i v := by
  have h1 : mcf u = mcf i := funext fun c => by unfold mcf; rw [h.1.2.1, h.1.2.2]
  unfold murem
  rw [h1, h.2]
theorem mst_run {i b s : Nat → Nat → Int32} {d : Nat → Nat → UInt64} (hO : OkI s) (hj : ∀ x : Nat, x < 3 → (i 427 x).toInt < 0) (e1 : mxG b s) (e2 : mxG i b) (h79 : (b 36 79).toInt = 0) (h77 : 1 ≤ (s 36 77).toInt) (e7 : s 427 = i 427) (se0 : (s 36 79).toInt ≤ (b 36 33).toInt) (se1 : skD (mcw b) (b 36 79).toInt (s 36 79).toInt) (se2 : skE (mcw b) (s 36 79).toInt (b 36 33).toInt) : MU s d ∧ mrest s = murem i 0 := by
  have b79 : (0 : Int) ≤ (s 36 79).toInt ∧ (s 36 79).toInt ≤ 24 := hO 36 79
  have hs : ∀ x : Nat, x < 3 → (s 427 x).toInt < 0 := fun x hx => by rw [e7]; exact hj x hx
  refine ⟨⟨⟨h77, by rw [e1.2]; exact se0⟩, by rw [e1.1.2.1, e1.2]; exact se2, fun x hx _ => hs x hx, fun x hx q => ?_⟩, ?_⟩
  · have := hs x hx
    have q1 := q.1
    omega
  · have a0 := mw1_or hO 0
    have a1 := mw1_or hO 1
    have a2 := mw1_or hO 2
    have s0 := hs 0 (by omega)
    have s1 := hs 1 (by omega)
    have s2 := hs 2 (by omega)
    have hr : mrest s = murem s (s 36 79).toInt + mw1 s 0 + mw1 s 1 + mw1 s 2 := rfl
    rw [h79] at se1
    have e4 := mur_sk (i := b) (u := 0) (by omega) (s 36 79).toInt.toNat (by omega) (by rw [show (0 : Int) + ((s 36 79).toInt.toNat : Int) = (s 36 79).toInt by omega]; exact se1)
    rw [show (0 : Int) + ((s 36 79).toInt.toNat : Int) = (s 36 79).toInt by omega] at e4
    rw [murem_g e1, e4, murem_g e2] at hr
    omega
theorem MI_off {i u : Nat → Nat → Int32} {d d' : Nat → Nat → UInt64} (h : MI i d) (h0 : (i 36 76).toInt = 0) (e : u 36 76 = i 36 76) (e7 : u 427 = i 427) : MI u d' := by
  rcases h with ⟨h1, h2⟩ | ⟨h1, _⟩
  · exact Or.inl ⟨by rw [e]; exact h1, by rw [e7]; exact h2⟩
  · omega
theorem dX12_read_7 : decode cX12_read 7 = .ok (.iconst 0, 1) := by decide +kernel
theorem dX12_read_8 : decode cX12_read 8 = .ok (.ireturn, 1) := by decide +kernel
theorem dX12_define_7 : decode cX12_define 7 = .ok (.iconst 0, 1) := by decide +kernel
theorem dX12_define_8 : decode cX12_define 8 = .ok (.ireturn, 1) := by decide +kernel
theorem dX12_hook_0 : decode cX12_hook 0 = .ok (.aload_n 0, 1) := by decide +kernel
theorem dX12_hook_1 : decode cX12_hook 1 = .ok (.invokevirtual 174, 3) := by decide +kernel
theorem dX12_hook_4 : decode cX12_hook 4 = .ok (.ifCond .eq 5, 3) := by decide +kernel
theorem dX12_hook_7 : decode cX12_hook 7 = .ok (.iconst 0, 1) := by decide +kernel
theorem dX12_hook_8 : decode cX12_hook 8 = .ok (.ireturn, 1) := by decide +kernel
theorem dX12_filter_0 : decode cX12_filter 0 = .ok (.aload_n 0, 1) := by decide +kernel
theorem dX12_filter_1 : decode cX12_filter 1 = .ok (.invokevirtual 174, 3) := by decide +kernel
theorem dX12_filter_4 : decode cX12_filter 4 = .ok (.ifCond .eq 5, 3) := by decide +kernel
theorem dX12_filter_7 : decode cX12_filter 7 = .ok (.iconst 0, 1) := by decide +kernel
theorem dX12_filter_8 : decode cX12_filter 8 = .ok (.ireturn, 1) := by decide +kernel
theorem dX12_start_0 : decode cX12_start 0 = .ok (.aload_n 0, 1) := by decide +kernel
theorem dX12_start_1 : decode cX12_start 1 = .ok (.invokevirtual 174, 3) := by decide +kernel
theorem dX12_start_4 : decode cX12_start 4 = .ok (.ifCond .eq 5, 3) := by decide +kernel
theorem dX12_start_7 : decode cX12_start 7 = .ok (.iconst 0, 1) := by decide +kernel
theorem dX12_start_8 : decode cX12_start 8 = .ok (.ireturn, 1) := by decide +kernel
theorem dX12_hook_9 : decode cX12_hook 9 = .ok (.aload_n 0, 1) := by decide +kernel
theorem dX12_hook_10 : decode cX12_hook 10 = .ok (.aload_n 0, 1) := by decide +kernel
theorem dX12_hook_11 : decode cX12_hook 11 = .ok (.getfield 12, 3) := by decide +kernel
theorem dX12_hook_14 : decode cX12_hook 14 = .ok (.iconst 0, 1) := by decide +kernel
theorem dX12_hook_15 : decode cX12_hook 15 = .ok (.aload_n 0, 1) := by decide +kernel
theorem dX12_hook_16 : decode cX12_hook 16 = .ok (.getfield 7, 3) := by decide +kernel
theorem dX12_hook_19 : decode cX12_hook 19 = .ok (.iconst 0, 1) := by decide +kernel
theorem dX12_hook_20 : decode cX12_hook 20 = .ok (.invokevirtual 400, 3) := by decide +kernel
theorem dX12_hook_23 : decode cX12_hook 23 = .ok (.ifCond .lt 17, 3) := by decide +kernel
theorem dX12_hook_40 : decode cX12_hook 40 = .ok (.iconst 0, 1) := by decide +kernel
theorem dX12_hook_41 : decode cX12_hook 41 = .ok (.istore_n 3, 1) := by decide +kernel
theorem dX12_hook_42 : decode cX12_hook 42 = .ok (.aload_n 0, 1) := by decide +kernel
theorem dX12_hook_43 : decode cX12_hook 43 = .ok (.iload_n 3, 1) := by decide +kernel
theorem dX12_hook_44 : decode cX12_hook 44 = .ok (.ifCond .ne 7, 3) := by decide +kernel
theorem dX12_hook_47 : decode cX12_hook 47 = .ok (.iconst 2, 1) := by decide +kernel
theorem dX12_hook_48 : decode cX12_hook 48 = .ok (.goto 17, 3) := by decide +kernel
theorem dX12_hook_65 : decode cX12_hook 65 = .ok (.putfield 1, 3) := by decide +kernel
theorem dX12_hook_68 : decode cX12_hook 68 = .ok (.aload_n 0, 1) := by decide +kernel
theorem dX12_hook_69 : decode cX12_hook 69 = .ok (.getfield 1, 3) := by decide +kernel
theorem dX12_hook_72 : decode cX12_hook 72 = .ok (.ifCond .ne 11, 3) := by decide +kernel
theorem dX12_hook_83 : decode cX12_hook 83 = .ok (.aload_n 0, 1) := by decide +kernel
theorem dX12_hook_84 : decode cX12_hook 84 = .ok (.iconst 0, 1) := by decide +kernel
theorem dX12_hook_85 : decode cX12_hook 85 = .ok (.putfield 7, 3) := by decide +kernel
theorem dX12_hook_88 : decode cX12_hook 88 = .ok (.aload_n 0, 1) := by decide +kernel
theorem dX12_hook_89 : decode cX12_hook 89 = .ok (.getfield 1, 3) := by decide +kernel
theorem dX12_hook_92 : decode cX12_hook 92 = .ok (.ifCond .le 5, 3) := by decide +kernel
theorem dX12_hook_95 : decode cX12_hook 95 = .ok (.iconst 0, 1) := by decide +kernel
theorem dX12_hook_96 : decode cX12_hook 96 = .ok (.ireturn, 1) := by decide +kernel
theorem dX12_hook_26 : decode cX12_hook 26 = .ok (.iload_n 2, 1) := by decide +kernel
theorem dX12_hook_27 : decode cX12_hook 27 = .ok (.ifCond .lt 13, 3) := by decide +kernel
theorem dX12_hook_30 : decode cX12_hook 30 = .ok (.iload_n 2, 1) := by decide +kernel
theorem dX12_hook_31 : decode cX12_hook 31 = .ok (.bipush 8, 2) := by decide +kernel
theorem dX12_hook_33 : decode cX12_hook 33 = .ok (.if_icmp .ge 7, 3) := by decide +kernel
theorem dX12_hook_36 : decode cX12_hook 36 = .ok (.iconst 1, 1) := by decide +kernel
theorem dX12_hook_37 : decode cX12_hook 37 = .ok (.goto 4, 3) := by decide +kernel
theorem dX12_hook_51 : decode cX12_hook 51 = .ok (.aload_n 0, 1) := by decide +kernel
theorem dX12_hook_52 : decode cX12_hook 52 = .ok (.getfield 404, 3) := by decide +kernel
theorem dX12_hook_55 : decode cX12_hook 55 = .ok (.bipush 8, 2) := by decide +kernel
theorem dX12_hook_57 : decode cX12_hook 57 = .ok (.if_icmp .ne 7, 3) := by decide +kernel
theorem dX12_hook_64 : decode cX12_hook 64 = .ok (.iconst 0, 1) := by decide +kernel
theorem dX12_hook_75 : decode cX12_hook 75 = .ok (.aload_n 0, 1) := by decide +kernel
theorem dX12_hook_76 : decode cX12_hook 76 = .ok (.aload_n 0, 1) := by decide +kernel
theorem dX12_hook_77 : decode cX12_hook 77 = .ok (.getfield 404, 3) := by decide +kernel
theorem dX12_hook_80 : decode cX12_hook 80 = .ok (.invokevirtual 407, 3) := by decide +kernel
theorem dX12_hook_97 : decode cX12_hook 97 = .ok (.aload_n 0, 1) := by decide +kernel
theorem dX12_hook_98 : decode cX12_hook 98 = .ok (.getfield 411, 3) := by decide +kernel
theorem dX12_hook_101 : decode cX12_hook 101 = .ok (.aload_n 0, 1) := by decide +kernel
theorem dX12_hook_102 : decode cX12_hook 102 = .ok (.getfield 404, 3) := by decide +kernel
theorem dX12_hook_105 : decode cX12_hook 105 = .ok (.iload_n 1, 1) := by decide +kernel
theorem dX12_hook_106 : decode cX12_hook 106 = .ok (.bastore, 1) := by decide +kernel
theorem dX12_hook_107 : decode cX12_hook 107 = .ok (.aload_n 0, 1) := by decide +kernel
theorem dX12_hook_108 : decode cX12_hook 108 = .ok (.getfield 415, 3) := by decide +kernel
theorem dX12_hook_111 : decode cX12_hook 111 = .ok (.aload_n 0, 1) := by decide +kernel
theorem dX12_hook_112 : decode cX12_hook 112 = .ok (.getfield 404, 3) := by decide +kernel
theorem dX12_hook_115 : decode cX12_hook 115 = .ok (.iload_n 2, 1) := by decide +kernel
theorem dX12_hook_116 : decode cX12_hook 116 = .ok (.iastore, 1) := by decide +kernel
theorem dX12_hook_117 : decode cX12_hook 117 = .ok (.aload_n 0, 1) := by decide +kernel
theorem dX12_hook_118 : decode cX12_hook 118 = .ok (.dup, 1) := by decide +kernel
theorem dX12_hook_119 : decode cX12_hook 119 = .ok (.getfield 404, 3) := by decide +kernel
theorem dX12_hook_122 : decode cX12_hook 122 = .ok (.iconst 1, 1) := by decide +kernel
theorem dX12_hook_123 : decode cX12_hook 123 = .ok (.iadd, 1) := by decide +kernel
theorem dX12_hook_124 : decode cX12_hook 124 = .ok (.putfield 404, 3) := by decide +kernel
theorem dX12_hook_127 : decode cX12_hook 127 = .ok (.aload_n 0, 1) := by decide +kernel
theorem dX12_hook_128 : decode cX12_hook 128 = .ok (.getfield 404, 3) := by decide +kernel
theorem dX12_hook_131 : decode cX12_hook 131 = .ok (.iconst 1, 1) := by decide +kernel
theorem dX12_hook_132 : decode cX12_hook 132 = .ok (.isub, 1) := by decide +kernel
theorem dX12_hook_133 : decode cX12_hook 133 = .ok (.ireturn, 1) := by decide +kernel
theorem dX12_hook_60 : decode cX12_hook 60 = .ok (.iconst 3, 1) := by decide +kernel
theorem dX12_hook_61 : decode cX12_hook 61 = .ok (.goto 4, 3) := by decide +kernel
theorem dX12_filter_9 : decode cX12_filter 9 = .ok (.aload_n 0, 1) := by decide +kernel
theorem dX12_filter_10 : decode cX12_filter 10 = .ok (.aload_n 0, 1) := by decide +kernel
theorem dX12_filter_11 : decode cX12_filter 11 = .ok (.aload_n 0, 1) := by decide +kernel
theorem dX12_filter_12 : decode cX12_filter 12 = .ok (.getfield 12, 3) := by decide +kernel
theorem dX12_filter_15 : decode cX12_filter 15 = .ok (.iconst 0, 1) := by decide +kernel
theorem dX12_filter_16 : decode cX12_filter 16 = .ok (.aload_n 0, 1) := by decide +kernel
theorem dX12_filter_17 : decode cX12_filter 17 = .ok (.getfield 7, 3) := by decide +kernel
theorem dX12_filter_20 : decode cX12_filter 20 = .ok (.iconst 0, 1) := by decide +kernel
theorem dX12_filter_21 : decode cX12_filter 21 = .ok (.invokevirtual 400, 3) := by decide +kernel
theorem dX12_filter_24 : decode cX12_filter 24 = .ok (.ifCond .lt 7, 3) := by decide +kernel
theorem dX12_filter_31 : decode cX12_filter 31 = .ok (.iconst 2, 1) := by decide +kernel
theorem dX12_filter_32 : decode cX12_filter 32 = .ok (.putfield 1, 3) := by decide +kernel
theorem dX12_filter_35 : decode cX12_filter 35 = .ok (.aload_n 0, 1) := by decide +kernel
theorem dX12_filter_36 : decode cX12_filter 36 = .ok (.getfield 1, 3) := by decide +kernel
theorem dX12_filter_39 : decode cX12_filter 39 = .ok (.ifCond .ne 9, 3) := by decide +kernel
theorem dX12_filter_48 : decode cX12_filter 48 = .ok (.aload_n 0, 1) := by decide +kernel
theorem dX12_filter_49 : decode cX12_filter 49 = .ok (.iconst 0, 1) := by decide +kernel
theorem dX12_filter_50 : decode cX12_filter 50 = .ok (.putfield 7, 3) := by decide +kernel
theorem dX12_filter_53 : decode cX12_filter 53 = .ok (.aload_n 0, 1) := by decide +kernel
theorem dX12_filter_54 : decode cX12_filter 54 = .ok (.getfield 1, 3) := by decide +kernel
theorem dX12_filter_57 : decode cX12_filter 57 = .ok (.ifCond .le 7, 3) := by decide +kernel
theorem dX12_filter_60 : decode cX12_filter 60 = .ok (.iconst 0, 1) := by decide +kernel
theorem dX12_filter_61 : decode cX12_filter 61 = .ok (.goto 7, 3) := by decide +kernel
theorem dX12_filter_68 : decode cX12_filter 68 = .ok (.ireturn, 1) := by decide +kernel
theorem dX12_filter_27 : decode cX12_filter 27 = .ok (.iconst 0, 1) := by decide +kernel
theorem dX12_filter_28 : decode cX12_filter 28 = .ok (.goto 4, 3) := by decide +kernel
theorem dX12_filter_42 : decode cX12_filter 42 = .ok (.aload_n 0, 1) := by decide +kernel
theorem dX12_filter_43 : decode cX12_filter 43 = .ok (.bipush 8, 2) := by decide +kernel
theorem dX12_filter_45 : decode cX12_filter 45 = .ok (.invokevirtual 407, 3) := by decide +kernel
theorem dX12_filter_64 : decode cX12_filter 64 = .ok (.aload_n 0, 1) := by decide +kernel
theorem dX12_filter_65 : decode cX12_filter 65 = .ok (.invokevirtual 421, 3) := by decide +kernel
theorem dX12_start_9 : decode cX12_start 9 = .ok (.aload_n 0, 1) := by decide +kernel
theorem dX12_start_10 : decode cX12_start 10 = .ok (.iload_n 1, 1) := by decide +kernel
theorem dX12_start_11 : decode cX12_start 11 = .ok (.iconst 1, 1) := by decide +kernel
theorem dX12_start_12 : decode cX12_start 12 = .ok (.if_icmp .lt 8, 3) := by decide +kernel
theorem dX12_start_20 : decode cX12_start 20 = .ok (.iconst 2, 1) := by decide +kernel
theorem dX12_start_21 : decode cX12_start 21 = .ok (.goto 4, 3) := by decide +kernel
theorem dX12_start_25 : decode cX12_start 25 = .ok (.invokevirtual 171, 3) := by decide +kernel
theorem dX12_start_28 : decode cX12_start 28 = .ok (.ifCond .eq 5, 3) := by decide +kernel
theorem dX12_start_33 : decode cX12_start 33 = .ok (.aload_n 0, 1) := by decide +kernel
theorem dX12_start_34 : decode cX12_start 34 = .ok (.iload_n 1, 1) := by decide +kernel
theorem dX12_start_35 : decode cX12_start 35 = .ok (.putfield 507, 3) := by decide +kernel
theorem dX12_start_38 : decode cX12_start 38 = .ok (.aload_n 0, 1) := by decide +kernel
theorem dX12_start_39 : decode cX12_start 39 = .ok (.iconst 0, 1) := by decide +kernel
theorem dX12_start_40 : decode cX12_start 40 = .ok (.putfield 516, 3) := by decide +kernel
theorem dX12_start_43 : decode cX12_start 43 = .ok (.aload_n 0, 1) := by decide +kernel
theorem dX12_start_44 : decode cX12_start 44 = .ok (.iconst 0, 1) := by decide +kernel
theorem dX12_start_45 : decode cX12_start 45 = .ok (.putfield 504, 3) := by decide +kernel
theorem dX12_start_48 : decode cX12_start 48 = .ok (.aload_n 0, 1) := by decide +kernel
theorem dX12_start_49 : decode cX12_start 49 = .ok (.iconst 0, 1) := by decide +kernel
theorem dX12_start_50 : decode cX12_start 50 = .ok (.putfield 510, 3) := by decide +kernel
theorem dX12_start_53 : decode cX12_start 53 = .ok (.aload_n 0, 1) := by decide +kernel
theorem dX12_start_54 : decode cX12_start 54 = .ok (.iconst 0, 1) := by decide +kernel
theorem dX12_start_55 : decode cX12_start 55 = .ok (.putfield 460, 3) := by decide +kernel
theorem dX12_start_58 : decode cX12_start 58 = .ok (.iconst 0, 1) := by decide +kernel
theorem dX12_start_59 : decode cX12_start 59 = .ok (.istore_n 2, 1) := by decide +kernel
theorem dX12_start_60 : decode cX12_start 60 = .ok (.iload_n 2, 1) := by decide +kernel
theorem dX12_start_61 : decode cX12_start 61 = .ok (.aload_n 0, 1) := by decide +kernel
theorem dX12_start_62 : decode cX12_start 62 = .ok (.getfield 165, 3) := by decide +kernel
theorem dX12_start_65 : decode cX12_start 65 = .ok (.if_icmp .ge 16, 3) := by decide +kernel
theorem dX12_start_81 : decode cX12_start 81 = .ok (.aload_n 0, 1) := by decide +kernel
theorem dX12_start_82 : decode cX12_start 82 = .ok (.iconst 1, 1) := by decide +kernel
theorem dX12_start_83 : decode cX12_start 83 = .ok (.putfield 168, 3) := by decide +kernel
theorem dX12_start_86 : decode cX12_start 86 = .ok (.aload_n 0, 1) := by decide +kernel
theorem dX12_start_87 : decode cX12_start 87 = .ok (.iconst 0, 1) := by decide +kernel
theorem dX12_start_88 : decode cX12_start 88 = .ok (.aload_n 0, 1) := by decide +kernel
theorem dX12_start_89 : decode cX12_start 89 = .ok (.invokevirtual 421, 3) := by decide +kernel
theorem dX12_start_92 : decode cX12_start 92 = .ok (.iload_n 1, 1) := by decide +kernel
theorem dX12_start_93 : decode cX12_start 93 = .ok (.iconst 0, 1) := by decide +kernel
theorem dX12_start_94 : decode cX12_start 94 = .ok (.invokevirtual 513, 3) := by decide +kernel
theorem dX12_start_97 : decode cX12_start 97 = .ok (.aload_n 0, 1) := by decide +kernel
theorem dX12_start_98 : decode cX12_start 98 = .ok (.invokevirtual 421, 3) := by decide +kernel
theorem dX12_start_101 : decode cX12_start 101 = .ok (.istore_n 2, 1) := by decide +kernel
theorem dX12_start_102 : decode cX12_start 102 = .ok (.aload_n 0, 1) := by decide +kernel
theorem dX12_start_103 : decode cX12_start 103 = .ok (.invokevirtual 519, 3) := by decide +kernel
theorem dX12_start_106 : decode cX12_start 106 = .ok (.aload_n 0, 1) := by decide +kernel
theorem dX12_start_107 : decode cX12_start 107 = .ok (.invokevirtual 522, 3) := by decide +kernel
theorem dX12_start_110 : decode cX12_start 110 = .ok (.iload_n 2, 1) := by decide +kernel
theorem dX12_start_111 : decode cX12_start 111 = .ok (.ireturn, 1) := by decide +kernel
theorem dX12_start_68 : decode cX12_start 68 = .ok (.aload_n 0, 1) := by decide +kernel
theorem dX12_start_69 : decode cX12_start 69 = .ok (.getfield 207, 3) := by decide +kernel
theorem dX12_start_72 : decode cX12_start 72 = .ok (.iload_n 2, 1) := by decide +kernel
theorem dX12_start_73 : decode cX12_start 73 = .ok (.iconst (-1), 1) := by decide +kernel
theorem dX12_start_74 : decode cX12_start 74 = .ok (.iastore, 1) := by decide +kernel
theorem dX12_start_75 : decode cX12_start 75 = .ok (.iinc 2 1, 3) := by decide +kernel
theorem dX12_start_78 : decode cX12_start 78 = .ok (.goto (-18), 3) := by decide +kernel
theorem dX12_start_31 : decode cX12_start 31 = .ok (.iconst 0, 1) := by decide +kernel
theorem dX12_start_32 : decode cX12_start 32 = .ok (.ireturn, 1) := by decide +kernel
theorem dX12_start_15 : decode cX12_start 15 = .ok (.iload_n 1, 1) := by decide +kernel
theorem dX12_start_16 : decode cX12_start 16 = .ok (.iconst 3, 1) := by decide +kernel
theorem dX12_start_17 : decode cX12_start 17 = .ok (.if_icmp .le 7, 3) := by decide +kernel
theorem dX12_start_24 : decode cX12_start 24 = .ok (.iconst 0, 1) := by decide +kernel
theorem gX12_hook_X12_busy : GoodIn wsX12_hook (wsV RX12 174 RX12 yX12_busy wsX12_busy) := goodIn_app (goodIn_sub (List.forall_mem_cons.mpr ⟨(List.mem_cons_of_mem _ (List.mem_append_left _ (List.mem_append_left _ lm6))), List.forall_mem_cons.mpr ⟨(List.mem_cons_of_mem _ (List.mem_append_left _ (List.mem_append_left _ lm7))), List.forall_mem_cons.mpr ⟨(List.mem_cons_of_mem _ (List.mem_append_left _ (List.mem_append_left _ lm8))), List.forall_mem_cons.mpr ⟨(List.mem_cons_of_mem _ (List.mem_append_left _ (List.mem_append_left _ lm9))), (fun _ h => absurd h List.not_mem_nil)⟩⟩⟩⟩) (by decide +kernel)) (goodIn_sub (by unfold wsX12_busy; exact List.forall_mem_cons.mpr ⟨(List.mem_cons_of_mem _ (List.mem_append_left _ (List.mem_append_left _ lm10))), List.forall_mem_append.mpr ⟨List.forall_mem_cons.mpr ⟨(List.mem_cons_of_mem _ (List.mem_append_left _ (List.mem_append_left _ lm11))), List.forall_mem_cons.mpr ⟨(List.mem_cons_of_mem _ (List.mem_append_left _ (List.mem_append_left _ lm12))), List.forall_mem_cons.mpr ⟨(List.mem_cons_of_mem _ (List.mem_append_left _ (List.mem_append_left _ lm13))), List.forall_mem_cons.mpr ⟨(List.mem_cons_of_mem _ (List.mem_append_left _ (List.mem_append_left _ lm14))), List.forall_mem_cons.mpr ⟨(List.mem_cons_of_mem _ (List.mem_append_left _ (List.mem_append_left _ lm9))), List.forall_mem_cons.mpr ⟨(List.mem_cons_of_mem _ (List.mem_append_left _ (List.mem_append_left _ lm15))), List.forall_mem_cons.mpr ⟨(List.mem_cons_of_mem _ (List.mem_append_left _ (List.mem_append_left _ lm3))), (fun _ h => absurd h List.not_mem_nil)⟩⟩⟩⟩⟩⟩⟩, (fun _ h => (List.mem_cons_of_mem _ (List.mem_append_right _ h)))⟩⟩) gw_X12_busy)
theorem gX12_filter_X12_busy : GoodIn wsX12_filter (wsV RX12 174 RX12 yX12_busy wsX12_busy) := goodIn_app (goodIn_sub (List.forall_mem_cons.mpr ⟨(List.mem_cons_of_mem _ (List.mem_append_left _ (List.mem_append_left _ lm3))), List.forall_mem_cons.mpr ⟨(List.mem_cons_of_mem _ (List.mem_append_left _ (List.mem_append_left _ lm4))), List.forall_mem_cons.mpr ⟨(List.mem_cons_of_mem _ (List.mem_append_left _ (List.mem_append_left _ lm5))), List.forall_mem_cons.mpr ⟨(List.mem_cons_of_mem _ (List.mem_append_left _ (List.mem_append_left _ lm6))), (fun _ h => absurd h List.not_mem_nil)⟩⟩⟩⟩) (by decide +kernel)) (goodIn_sub (by unfold wsX12_busy; exact List.forall_mem_cons.mpr ⟨(List.mem_cons_of_mem _ (List.mem_append_left _ (List.mem_append_left _ lm7))), List.forall_mem_append.mpr ⟨List.forall_mem_cons.mpr ⟨(List.mem_cons_of_mem _ (List.mem_append_left _ (List.mem_append_left _ lm8))), List.forall_mem_cons.mpr ⟨(List.mem_cons_of_mem _ (List.mem_append_left _ (List.mem_append_left _ lm9))), List.forall_mem_cons.mpr ⟨(List.mem_cons_of_mem _ (List.mem_append_left _ (List.mem_append_left _ lm10))), List.forall_mem_cons.mpr ⟨(List.mem_cons_of_mem _ (List.mem_append_left _ (List.mem_append_left _ lm11))), List.forall_mem_cons.mpr ⟨(List.mem_cons_of_mem _ (List.mem_append_left _ (List.mem_append_left _ lm6))), List.forall_mem_cons.mpr ⟨(List.mem_cons_of_mem _ (List.mem_append_left _ (List.mem_append_left _ lm12))), List.forall_mem_cons.mpr ⟨(List.mem_cons_of_mem _ (List.mem_append_left _ (List.mem_append_left _ lm2))), (fun _ h => absurd h List.not_mem_nil)⟩⟩⟩⟩⟩⟩⟩, (fun _ h => (List.mem_cons_of_mem _ (List.mem_append_right _ h)))⟩⟩) gw_X12_busy)
theorem gX12_start_X12_busy : GoodIn wsX12_start (wsV RX12 174 RX12 yX12_busy wsX12_busy) := goodIn_app (goodIn_sub (List.forall_mem_cons.mpr ⟨(List.mem_cons_of_mem _ (List.mem_append_left _ (List.mem_append_left _ lm8))), List.forall_mem_cons.mpr ⟨(List.mem_cons_of_mem _ (List.mem_append_left _ (List.mem_append_left _ lm9))), List.forall_mem_cons.mpr ⟨(List.mem_cons_of_mem _ (List.mem_append_left _ (List.mem_append_left _ lm10))), List.forall_mem_cons.mpr ⟨(List.mem_cons_of_mem _ (List.mem_append_left _ (List.mem_append_left _ lm11))), (fun _ h => absurd h List.not_mem_nil)⟩⟩⟩⟩) (by decide +kernel)) (goodIn_sub (by unfold wsX12_busy; exact List.forall_mem_cons.mpr ⟨(List.mem_cons_of_mem _ (List.mem_append_left _ (List.mem_append_left _ lm12))), List.forall_mem_append.mpr ⟨List.forall_mem_cons.mpr ⟨(List.mem_cons_of_mem _ (List.mem_append_left _ (List.mem_append_left _ lm7))), List.forall_mem_cons.mpr ⟨(List.mem_cons_of_mem _ (List.mem_append_left _ (List.mem_append_left _ lm13))), List.forall_mem_cons.mpr ⟨(List.mem_cons_of_mem _ (List.mem_append_left _ (List.mem_append_left _ lm14))), List.forall_mem_cons.mpr ⟨(List.mem_cons_of_mem _ (List.mem_append_left _ (List.mem_append_left _ lm15))), List.forall_mem_cons.mpr ⟨(List.mem_cons_of_mem _ (List.mem_append_left _ (List.mem_append_left _ lm11))), List.forall_mem_cons.mpr ⟨(List.mem_cons_of_mem _ (List.mem_append_left _ (List.mem_append_left _ lm16))), List.forall_mem_cons.mpr ⟨(List.mem_cons_of_mem _ (List.mem_append_left _ (List.mem_append_left _ lm17))), (fun _ h => absurd h List.not_mem_nil)⟩⟩⟩⟩⟩⟩⟩, (fun _ h => (List.mem_cons_of_mem _ (List.mem_append_right _ h)))⟩⟩) gw_X12_busy)
theorem gX12_hook_X12_test : GoodIn wsX12_hook (wsV RX12 400 RX12 yX12_test wsX12_test) := goodIn_app (goodIn_sub (List.forall_mem_cons.mpr ⟨(List.mem_cons_of_mem _ (List.mem_append_left _ (List.mem_append_left _ lm16))), List.forall_mem_cons.mpr ⟨(List.mem_cons_of_mem _ (List.mem_append_left _ (List.mem_append_left _ lm17))), List.forall_mem_cons.mpr ⟨(List.mem_cons_of_mem _ (List.mem_append_left _ (List.mem_append_left _ lm18))), List.forall_mem_cons.mpr ⟨(List.mem_cons_of_mem _ (List.mem_append_left _ (List.mem_append_left _ lm9))), (fun _ h => absurd h List.not_mem_nil)⟩⟩⟩⟩) (by decide +kernel)) (goodIn_sub (by unfold wsX12_test; exact List.forall_mem_cons.mpr ⟨(List.mem_cons_of_mem _ (List.mem_append_left _ (List.mem_append_left _ lm19))), List.forall_mem_append.mpr ⟨List.forall_mem_cons.mpr ⟨(List.mem_cons_of_mem _ (List.mem_append_left _ (List.mem_append_left _ lm20))), List.forall_mem_cons.mpr ⟨(List.mem_cons_of_mem _ (List.mem_append_left _ (List.mem_append_left _ lm21))), List.forall_mem_cons.mpr ⟨(List.mem_cons_of_mem _ (List.mem_append_left _ (List.mem_append_left _ lm22))), List.forall_mem_cons.mpr ⟨(List.mem_cons_of_mem _ (List.mem_append_left _ (List.mem_append_left _ lm23))), List.forall_mem_cons.mpr ⟨(List.mem_cons_of_mem _ (List.mem_append_left _ (List.mem_append_right _ (List.mem_append_left _ lm0)))), List.forall_mem_cons.mpr ⟨(List.mem_cons_of_mem _ (List.mem_append_left _ (List.mem_append_right _ (List.mem_append_left _ lm1)))), List.forall_mem_cons.mpr ⟨(List.mem_cons_of_mem _ (List.mem_append_left _ (List.mem_append_right _ (List.mem_append_left _ lm2)))), List.forall_mem_cons.mpr ⟨(List.mem_cons_of_mem _ (List.mem_append_left _ (List.mem_append_left _ lm9))), List.forall_mem_cons.mpr ⟨(List.mem_cons_of_mem _ (List.mem_append_left _ (List.mem_append_right _ (List.mem_append_left _ lm3)))), List.forall_mem_cons.mpr ⟨(List.mem_cons_of_mem _ (List.mem_append_left _ (List.mem_append_right _ (List.mem_append_left _ lm4)))), List.forall_mem_cons.mpr ⟨(List.mem_cons_of_mem _ (List.mem_append_left _ (List.mem_append_right _ (List.mem_append_left _ lm5)))), List.forall_mem_cons.mpr ⟨(List.mem_cons_of_mem _ (List.mem_append_left _ (List.mem_append_right _ (List.mem_append_left _ lm6)))), List.forall_mem_cons.mpr ⟨(List.mem_cons_of_mem _ (List.mem_append_left _ (List.mem_append_right _ (List.mem_append_left _ lm7)))), List.forall_mem_cons.mpr ⟨(List.mem_cons_of_mem _ (List.mem_append_left _ (List.mem_append_right _ (List.mem_append_left _ lm8)))), List.forall_mem_cons.mpr ⟨(List.mem_cons_of_mem _ (List.mem_append_left _ (List.mem_append_right _ (List.mem_append_left _ lm9)))), List.forall_mem_cons.mpr ⟨(List.mem_cons_of_mem _ (List.mem_append_left _ (List.mem_append_right _ (List.mem_append_left _ lm10)))), List.forall_mem_cons.mpr ⟨(List.mem_cons_of_mem _ (List.mem_append_left _ (List.mem_append_right _ (List.mem_append_left _ lm11)))), List.forall_mem_cons.mpr ⟨(List.mem_cons_of_mem _ (List.mem_append_left _ (List.mem_append_right _ (List.mem_append_left _ lm12)))), List.forall_mem_cons.mpr ⟨(List.mem_cons_of_mem _ (List.mem_append_left _ (List.mem_append_right _ (List.mem_append_left _ lm13)))), List.forall_mem_cons.mpr ⟨(List.mem_cons_of_mem _ (List.mem_append_left _ (List.mem_append_right _ (List.mem_append_left _ lm14)))), List.forall_mem_cons.mpr ⟨(List.mem_cons_of_mem _ (List.mem_append_left _ (List.mem_append_right _ (List.mem_append_left _ lm15)))), List.forall_mem_cons.mpr ⟨(List.mem_cons_of_mem _ (List.mem_append_left _ (List.mem_append_right _ (List.mem_append_left _ lm16)))), List.forall_mem_cons.mpr ⟨(List.mem_cons_of_mem _ (List.mem_append_left _ (List.mem_append_right _ (List.mem_append_left _ lm17)))), List.forall_mem_cons.mpr ⟨(List.mem_cons_of_mem _ (List.mem_append_left _ (List.mem_append_right _ (List.mem_append_left _ lm18)))), (fun _ h => absurd h List.not_mem_nil)⟩⟩⟩⟩⟩⟩⟩⟩⟩⟩⟩⟩⟩⟩⟩⟩⟩⟩⟩⟩⟩⟩⟩⟩, (fun _ h => (List.mem_cons_of_mem _ (List.mem_append_right _ h)))⟩⟩) gw_X12_test)
theorem gw_X12_keep : wsX12_keep.all goodWord = true := by decide +kernel
theorem gX12_hook_X12_keep : GoodIn wsX12_hook (wsV RX12 407 RX12 yX12_keep wsX12_keep) := goodIn_app (goodIn_sub (List.forall_mem_cons.mpr ⟨(List.mem_cons_of_mem _ (List.mem_append_left _ (List.mem_append_right _ (List.mem_append_left _ lm19)))), List.forall_mem_cons.mpr ⟨(List.mem_cons_of_mem _ (List.mem_append_left _ (List.mem_append_right _ (List.mem_append_left _ lm20)))), List.forall_mem_cons.mpr ⟨(List.mem_cons_of_mem _ (List.mem_append_left _ (List.mem_append_right _ (List.mem_append_left _ lm21)))), List.forall_mem_cons.mpr ⟨(List.mem_cons_of_mem _ (List.mem_append_left _ (List.mem_append_left _ lm9))), (fun _ h => absurd h List.not_mem_nil)⟩⟩⟩⟩) (by decide +kernel)) (goodIn_sub (by unfold wsX12_keep; exact List.forall_mem_cons.mpr ⟨(List.mem_cons_of_mem _ (List.mem_append_left _ (List.mem_append_right _ (List.mem_append_left _ lm22)))), List.forall_mem_append.mpr ⟨List.forall_mem_cons.mpr ⟨(List.mem_cons_of_mem _ (List.mem_append_left _ (List.mem_append_right _ (List.mem_append_left _ lm23)))), List.forall_mem_cons.mpr ⟨(List.mem_cons_of_mem _ (List.mem_append_left _ (List.mem_append_left _ lm1))), List.forall_mem_cons.mpr ⟨(List.mem_cons_of_mem _ (List.mem_append_left _ (List.mem_append_right _ (List.mem_append_right _ lm0)))), List.forall_mem_cons.mpr ⟨(List.mem_cons_of_mem _ (List.mem_append_left _ (List.mem_append_left _ lm0))), (fun _ h => absurd h List.not_mem_nil)⟩⟩⟩⟩, (fun _ h => (List.mem_cons_of_mem _ (List.mem_append_right _ h)))⟩⟩) gw_X12_keep)
theorem gX12_filter_X12_test : GoodIn wsX12_filter (wsV RX12 400 RX12 yX12_test wsX12_test) := goodIn_app (goodIn_sub (List.forall_mem_cons.mpr ⟨(List.mem_cons_of_mem _ (List.mem_append_left _ (List.mem_append_left _ lm13))), List.forall_mem_cons.mpr ⟨(List.mem_cons_of_mem _ (List.mem_append_left _ (List.mem_append_left _ lm14))), List.forall_mem_cons.mpr ⟨(List.mem_cons_of_mem _ (List.mem_append_left _ (List.mem_append_left _ lm15))), List.forall_mem_cons.mpr ⟨(List.mem_cons_of_mem _ (List.mem_append_left _ (List.mem_append_left _ lm6))), (fun _ h => absurd h List.not_mem_nil)⟩⟩⟩⟩) (by decide +kernel)) (goodIn_sub (by unfold wsX12_test; exact List.forall_mem_cons.mpr ⟨(List.mem_cons_of_mem _ (List.mem_append_left _ (List.mem_append_left _ lm16))), List.forall_mem_append.mpr ⟨List.forall_mem_cons.mpr ⟨(List.mem_cons_of_mem _ (List.mem_append_left _ (List.mem_append_left _ lm17))), List.forall_mem_cons.mpr ⟨(List.mem_cons_of_mem _ (List.mem_append_left _ (List.mem_append_left _ lm18))), List.forall_mem_cons.mpr ⟨(List.mem_cons_of_mem _ (List.mem_append_left _ (List.mem_append_left _ lm19))), List.forall_mem_cons.mpr ⟨(List.mem_cons_of_mem _ (List.mem_append_left _ (List.mem_append_left _ lm20))), List.forall_mem_cons.mpr ⟨(List.mem_cons_of_mem _ (List.mem_append_left _ (List.mem_append_left _ lm21))), List.forall_mem_cons.mpr ⟨(List.mem_cons_of_mem _ (List.mem_append_left _ (List.mem_append_left _ lm22))), List.forall_mem_cons.mpr ⟨(List.mem_cons_of_mem _ (List.mem_append_left _ (List.mem_append_left _ lm23))), List.forall_mem_cons.mpr ⟨(List.mem_cons_of_mem _ (List.mem_append_left _ (List.mem_append_left _ lm6))), List.forall_mem_cons.mpr ⟨(List.mem_cons_of_mem _ (List.mem_append_left _ (List.mem_append_right _ (List.mem_append_left _ lm0)))), List.forall_mem_cons.mpr ⟨(List.mem_cons_of_mem _ (List.mem_append_left _ (List.mem_append_right _ (List.mem_append_left _ lm1)))), List.forall_mem_cons.mpr ⟨(List.mem_cons_of_mem _ (List.mem_append_left _ (List.mem_append_right _ (List.mem_append_left _ lm2)))), List.forall_mem_cons.mpr ⟨(List.mem_cons_of_mem _ (List.mem_append_left _ (List.mem_append_right _ (List.mem_append_left _ lm3)))), List.forall_mem_cons.mpr ⟨(List.mem_cons_of_mem _ (List.mem_append_left _ (List.mem_append_right _ (List.mem_append_left _ lm4)))), List.forall_mem_cons.mpr ⟨(List.mem_cons_of_mem _ (List.mem_append_left _ (List.mem_append_right _ (List.mem_append_left _ lm5)))), List.forall_mem_cons.mpr ⟨(List.mem_cons_of_mem _ (List.mem_append_left _ (List.mem_append_right _ (List.mem_append_left _ lm6)))), List.forall_mem_cons.mpr ⟨(List.mem_cons_of_mem _ (List.mem_append_left _ (List.mem_append_right _ (List.mem_append_left _ lm7)))), List.forall_mem_cons.mpr ⟨(List.mem_cons_of_mem _ (List.mem_append_left _ (List.mem_append_right _ (List.mem_append_left _ lm8)))), List.forall_mem_cons.mpr ⟨(List.mem_cons_of_mem _ (List.mem_append_left _ (List.mem_append_right _ (List.mem_append_left _ lm9)))), List.forall_mem_cons.mpr ⟨(List.mem_cons_of_mem _ (List.mem_append_left _ (List.mem_append_right _ (List.mem_append_left _ lm10)))), List.forall_mem_cons.mpr ⟨(List.mem_cons_of_mem _ (List.mem_append_left _ (List.mem_append_right _ (List.mem_append_left _ lm11)))), List.forall_mem_cons.mpr ⟨(List.mem_cons_of_mem _ (List.mem_append_left _ (List.mem_append_right _ (List.mem_append_left _ lm12)))), List.forall_mem_cons.mpr ⟨(List.mem_cons_of_mem _ (List.mem_append_left _ (List.mem_append_right _ (List.mem_append_left _ lm13)))), List.forall_mem_cons.mpr ⟨(List.mem_cons_of_mem _ (List.mem_append_left _ (List.mem_append_right _ (List.mem_append_left _ lm14)))), List.forall_mem_cons.mpr ⟨(List.mem_cons_of_mem _ (List.mem_append_left _ (List.mem_append_right _ (List.mem_append_left _ lm15)))), (fun _ h => absurd h List.not_mem_nil)⟩⟩⟩⟩⟩⟩⟩⟩⟩⟩⟩⟩⟩⟩⟩⟩⟩⟩⟩⟩⟩⟩⟩⟩, (fun _ h => (List.mem_cons_of_mem _ (List.mem_append_right _ h)))⟩⟩) gw_X12_test)
theorem gX12_filter_X12_keep : GoodIn wsX12_filter (wsV RX12 407 RX12 yX12_keep wsX12_keep) := goodIn_app (goodIn_sub (List.forall_mem_cons.mpr ⟨(List.mem_cons_of_mem _ (List.mem_append_left _ (List.mem_append_right _ (List.mem_append_left _ lm16)))), List.forall_mem_cons.mpr ⟨(List.mem_cons_of_mem _ (List.mem_append_left _ (List.mem_append_right _ (List.mem_append_left _ lm17)))), List.forall_mem_cons.mpr ⟨(List.mem_cons_of_mem _ (List.mem_append_left _ (List.mem_append_right _ (List.mem_append_left _ lm18)))), List.forall_mem_cons.mpr ⟨(List.mem_cons_of_mem _ (List.mem_append_left _ (List.mem_append_left _ lm6))), (fun _ h => absurd h List.not_mem_nil)⟩⟩⟩⟩) (by decide +kernel)) (goodIn_sub (by unfold wsX12_keep; exact List.forall_mem_cons.mpr ⟨(List.mem_cons_of_mem _ (List.mem_append_left _ (List.mem_append_right _ (List.mem_append_left _ lm19)))), List.forall_mem_append.mpr ⟨List.forall_mem_cons.mpr ⟨(List.mem_cons_of_mem _ (List.mem_append_left _ (List.mem_append_right _ (List.mem_append_left _ lm20)))), List.forall_mem_cons.mpr ⟨(List.mem_cons_of_mem _ (List.mem_append_left _ (List.mem_append_left _ lm1))), List.forall_mem_cons.mpr ⟨(List.mem_cons_of_mem _ (List.mem_append_left _ (List.mem_append_right _ (List.mem_append_left _ lm21)))), List.forall_mem_cons.mpr ⟨(List.mem_cons_of_mem _ (List.mem_append_left _ (List.mem_append_left _ lm0))), (fun _ h => absurd h List.not_mem_nil)⟩⟩⟩⟩, (fun _ h => (List.mem_cons_of_mem _ (List.mem_append_right _ h)))⟩⟩) gw_X12_keep)
theorem gw_X12_wanted : wsX12_wanted.all goodWord = true := by decide +kernel
theorem gX12_filter_X12_wanted : GoodIn wsX12_filter (wsV RX12 421 RX12 yX12_wanted wsX12_wanted) := goodIn_app (goodIn_sub (List.forall_mem_cons.mpr ⟨(List.mem_cons_of_mem _ (List.mem_append_left _ (List.mem_append_right _ (List.mem_append_left _ lm22)))), List.forall_mem_cons.mpr ⟨(List.mem_cons_of_mem _ (List.mem_append_left _ (List.mem_append_right _ (List.mem_append_left _ lm23)))), List.forall_mem_cons.mpr ⟨(List.mem_cons_of_mem _ (List.mem_append_left _ (List.mem_append_right _ (List.mem_append_right _ lm0)))), List.forall_mem_cons.mpr ⟨(List.mem_cons_of_mem _ (List.mem_append_left _ (List.mem_append_left _ lm6))), (fun _ h => absurd h List.not_mem_nil)⟩⟩⟩⟩) (by decide +kernel)) (goodIn_sub (by unfold wsX12_wanted; exact List.forall_mem_cons.mpr ⟨(List.mem_cons_of_mem _ (List.mem_append_left _ (List.mem_append_right _ (List.mem_append_right _ lm1)))), List.forall_mem_append.mpr ⟨List.forall_mem_append.mpr ⟨List.forall_mem_cons.mpr ⟨(List.mem_cons_of_mem _ (List.mem_append_left _ (List.mem_append_right _ (List.mem_append_right _ lm2)))), List.forall_mem_cons.mpr ⟨(List.mem_cons_of_mem _ (List.mem_append_left _ (List.mem_append_right _ (List.mem_append_right _ lm3)))), List.forall_mem_cons.mpr ⟨(List.mem_cons_of_mem _ (List.mem_append_left _ (List.mem_append_right _ (List.mem_append_right _ lm4)))), List.forall_mem_cons.mpr ⟨(List.mem_cons_of_mem _ (List.mem_append_left _ (List.mem_append_right _ (List.mem_append_right _ lm5)))), List.forall_mem_cons.mpr ⟨(List.mem_cons_of_mem _ (List.mem_append_left _ (List.mem_append_right _ (List.mem_append_right _ lm6)))), List.forall_mem_cons.mpr ⟨(List.mem_cons_of_mem _ (List.mem_append_left _ (List.mem_append_left _ lm6))), List.forall_mem_cons.mpr ⟨(List.mem_cons_of_mem _ (List.mem_append_left _ (List.mem_append_right _ (List.mem_append_right _ lm7)))), List.forall_mem_cons.mpr ⟨(List.mem_cons_of_mem _ (List.mem_append_left _ (List.mem_append_right _ (List.mem_append_left _ lm21)))), List.forall_mem_cons.mpr ⟨(List.mem_cons_of_mem _ (List.mem_append_left _ (List.mem_append_right _ (List.mem_append_left _ lm20)))), List.forall_mem_cons.mpr ⟨(List.mem_cons_of_mem _ (List.mem_append_left _ (List.mem_append_left _ lm13))), List.forall_mem_cons.mpr ⟨(List.mem_cons_of_mem _ (List.mem_append_left _ (List.mem_append_left _ lm14))), List.forall_mem_cons.mpr ⟨(List.mem_cons_of_mem _ (List.mem_append_left _ (List.mem_append_left _ lm15))), List.forall_mem_cons.mpr ⟨(List.mem_cons_of_mem _ (List.mem_append_left _ (List.mem_append_left _ lm16))), List.forall_mem_cons.mpr ⟨(List.mem_cons_of_mem _ (List.mem_append_left _ (List.mem_append_left _ lm17))), List.forall_mem_cons.mpr ⟨(List.mem_cons_of_mem _ (List.mem_append_left _ (List.mem_append_left _ lm18))), List.forall_mem_cons.mpr ⟨(List.mem_cons_of_mem _ (List.mem_append_left _ (List.mem_append_left _ lm19))), List.forall_mem_cons.mpr ⟨(List.mem_cons_of_mem _ (List.mem_append_left _ (List.mem_append_left _ lm20))), List.forall_mem_cons.mpr ⟨(List.mem_cons_of_mem _ (List.mem_append_left _ (List.mem_append_left _ lm21))), List.forall_mem_cons.mpr ⟨(List.mem_cons_of_mem _ (List.mem_append_left _ (List.mem_append_left _ lm22))), List.forall_mem_cons.mpr ⟨(List.mem_cons_of_mem _ (List.mem_append_left _ (List.mem_append_left _ lm23))), List.forall_mem_cons.mpr ⟨(List.mem_cons_of_mem _ (List.mem_append_left _ (List.mem_append_right _ (List.mem_append_left _ lm0)))), List.forall_mem_cons.mpr ⟨(List.mem_cons_of_mem _ (List.mem_append_left _ (List.mem_append_right _ (List.mem_append_left _ lm1)))), List.forall_mem_cons.mpr ⟨(List.mem_cons_of_mem _ (List.mem_append_left _ (List.mem_append_right _ (List.mem_append_left _ lm2)))), List.forall_mem_cons.mpr ⟨(List.mem_cons_of_mem _ (List.mem_append_left _ (List.mem_append_right _ (List.mem_append_left _ lm3)))), (fun _ h => absurd h List.not_mem_nil)⟩⟩⟩⟩⟩⟩⟩⟩⟩⟩⟩⟩⟩⟩⟩⟩⟩⟩⟩⟩⟩⟩⟩⟩, List.forall_mem_cons.mpr ⟨(List.mem_cons_of_mem _ (List.mem_append_left _ (List.mem_append_right _ (List.mem_append_left _ lm4)))), List.forall_mem_cons.mpr ⟨(List.mem_cons_of_mem _ (List.mem_append_left _ (List.mem_append_right _ (List.mem_append_left _ lm5)))), List.forall_mem_cons.mpr ⟨(List.mem_cons_of_mem _ (List.mem_append_left _ (List.mem_append_right _ (List.mem_append_left _ lm6)))), List.forall_mem_cons.mpr ⟨(List.mem_cons_of_mem _ (List.mem_append_left _ (List.mem_append_right _ (List.mem_append_left _ lm7)))), List.forall_mem_cons.mpr ⟨(List.mem_cons_of_mem _ (List.mem_append_left _ (List.mem_append_right _ (List.mem_append_left _ lm8)))), List.forall_mem_cons.mpr ⟨(List.mem_cons_of_mem _ (List.mem_append_left _ (List.mem_append_right _ (List.mem_append_left _ lm9)))), List.forall_mem_cons.mpr ⟨(List.mem_cons_of_mem _ (List.mem_append_left _ (List.mem_append_right _ (List.mem_append_left _ lm10)))), List.forall_mem_cons.mpr ⟨(List.mem_cons_of_mem _ (List.mem_append_left _ (List.mem_append_right _ (List.mem_append_left _ lm11)))), List.forall_mem_cons.mpr ⟨(List.mem_cons_of_mem _ (List.mem_append_left _ (List.mem_append_right _ (List.mem_append_left _ lm12)))), List.forall_mem_cons.mpr ⟨(List.mem_cons_of_mem _ (List.mem_append_left _ (List.mem_append_right _ (List.mem_append_left _ lm13)))), List.forall_mem_cons.mpr ⟨(List.mem_cons_of_mem _ (List.mem_append_left _ (List.mem_append_right _ (List.mem_append_left _ lm14)))), List.forall_mem_cons.mpr ⟨(List.mem_cons_of_mem _ (List.mem_append_left _ (List.mem_append_right _ (List.mem_append_left _ lm15)))), (fun _ h => absurd h List.not_mem_nil)⟩⟩⟩⟩⟩⟩⟩⟩⟩⟩⟩⟩⟩, (fun _ h => (List.mem_cons_of_mem _ (List.mem_append_right _ h)))⟩⟩) gw_X12_wanted)
theorem gX12_start_X12_throwsNow : GoodIn wsX12_start (wsV RX12 171 RX12 yX12_throwsNow wsX12_throwsNow) := goodIn_app (goodIn_sub (List.forall_mem_cons.mpr ⟨(List.mem_cons_of_mem _ (List.mem_append_left _ (List.mem_append_left _ lm13))), List.forall_mem_cons.mpr ⟨(List.mem_cons_of_mem _ (List.mem_append_left _ (List.mem_append_left _ lm14))), List.forall_mem_cons.mpr ⟨(List.mem_cons_of_mem _ (List.mem_append_left _ (List.mem_append_left _ lm15))), List.forall_mem_cons.mpr ⟨(List.mem_cons_of_mem _ (List.mem_append_left _ (List.mem_append_left _ lm11))), (fun _ h => absurd h List.not_mem_nil)⟩⟩⟩⟩) (by decide +kernel)) (goodIn_sub (by unfold wsX12_throwsNow; exact List.forall_mem_cons.mpr ⟨(List.mem_cons_of_mem _ (List.mem_append_left _ (List.mem_append_left _ lm16))), List.forall_mem_append.mpr ⟨List.forall_mem_cons.mpr ⟨(List.mem_cons_of_mem _ (List.mem_append_left _ (List.mem_append_left _ lm17))), (fun _ h => absurd h List.not_mem_nil)⟩, (fun _ h => (List.mem_cons_of_mem _ (List.mem_append_right _ h)))⟩⟩) gw_X12_throwsNow)
theorem gX12_start_X12_wanted : GoodIn wsX12_start (wsV RX12 421 RX12 yX12_wanted wsX12_wanted) := goodIn_app (goodIn_sub (List.forall_mem_cons.mpr ⟨(List.mem_cons_of_mem _ (List.mem_append_left _ (List.mem_append_left _ lm18))), List.forall_mem_cons.mpr ⟨(List.mem_cons_of_mem _ (List.mem_append_left _ (List.mem_append_left _ lm19))), List.forall_mem_cons.mpr ⟨(List.mem_cons_of_mem _ (List.mem_append_left _ (List.mem_append_left _ lm20))), List.forall_mem_cons.mpr ⟨(List.mem_cons_of_mem _ (List.mem_append_left _ (List.mem_append_left _ lm11))), (fun _ h => absurd h List.not_mem_nil)⟩⟩⟩⟩) (by decide +kernel)) (goodIn_sub (by unfold wsX12_wanted; exact List.forall_mem_cons.mpr ⟨(List.mem_cons_of_mem _ (List.mem_append_left _ (List.mem_append_left _ lm21))), List.forall_mem_append.mpr ⟨List.forall_mem_append.mpr ⟨List.forall_mem_cons.mpr ⟨(List.mem_cons_of_mem _ (List.mem_append_left _ (List.mem_append_left _ lm5))), List.forall_mem_cons.mpr ⟨(List.mem_cons_of_mem _ (List.mem_append_left _ (List.mem_append_left _ lm22))), List.forall_mem_cons.mpr ⟨(List.mem_cons_of_mem _ (List.mem_append_left _ (List.mem_append_left _ lm23))), List.forall_mem_cons.mpr ⟨(List.mem_cons_of_mem _ (List.mem_append_left _ (List.mem_append_right _ (List.mem_append_left _ lm0)))), List.forall_mem_cons.mpr ⟨(List.mem_cons_of_mem _ (List.mem_append_left _ (List.mem_append_right _ (List.mem_append_left _ lm1)))), List.forall_mem_cons.mpr ⟨(List.mem_cons_of_mem _ (List.mem_append_left _ (List.mem_append_left _ lm11))), List.forall_mem_cons.mpr ⟨(List.mem_cons_of_mem _ (List.mem_append_left _ (List.mem_append_right _ (List.mem_append_left _ lm2)))), List.forall_mem_cons.mpr ⟨(List.mem_cons_of_mem _ (List.mem_append_left _ (List.mem_append_right _ (List.mem_append_left _ lm3)))), List.forall_mem_cons.mpr ⟨(List.mem_cons_of_mem _ (List.mem_append_left _ (List.mem_append_right _ (List.mem_append_left _ lm4)))), List.forall_mem_cons.mpr ⟨(List.mem_cons_of_mem _ (List.mem_append_left _ (List.mem_append_right _ (List.mem_append_left _ lm5)))), List.forall_mem_cons.mpr ⟨(List.mem_cons_of_mem _ (List.mem_append_left _ (List.mem_append_right _ (List.mem_append_left _ lm6)))), List.forall_mem_cons.mpr ⟨(List.mem_cons_of_mem _ (List.mem_append_left _ (List.mem_append_right _ (List.mem_append_left _ lm7)))), List.forall_mem_cons.mpr ⟨(List.mem_cons_of_mem _ (List.mem_append_left _ (List.mem_append_right _ (List.mem_append_left _ lm8)))), List.forall_mem_cons.mpr ⟨(List.mem_cons_of_mem _ (List.mem_append_left _ (List.mem_append_right _ (List.mem_append_left _ lm9)))), List.forall_mem_cons.mpr ⟨(List.mem_cons_of_mem _ (List.mem_append_left _ (List.mem_append_right _ (List.mem_append_left _ lm10)))), List.forall_mem_cons.mpr ⟨(List.mem_cons_of_mem _ (List.mem_append_left _ (List.mem_append_right _ (List.mem_append_left _ lm11)))), List.forall_mem_cons.mpr ⟨(List.mem_cons_of_mem _ (List.mem_append_left _ (List.mem_append_right _ (List.mem_append_left _ lm12)))), List.forall_mem_cons.mpr ⟨(List.mem_cons_of_mem _ (List.mem_append_left _ (List.mem_append_right _ (List.mem_append_left _ lm13)))), List.forall_mem_cons.mpr ⟨(List.mem_cons_of_mem _ (List.mem_append_left _ (List.mem_append_right _ (List.mem_append_left _ lm14)))), List.forall_mem_cons.mpr ⟨(List.mem_cons_of_mem _ (List.mem_append_left _ (List.mem_append_right _ (List.mem_append_left _ lm15)))), List.forall_mem_cons.mpr ⟨(List.mem_cons_of_mem _ (List.mem_append_left _ (List.mem_append_right _ (List.mem_append_left _ lm16)))), List.forall_mem_cons.mpr ⟨(List.mem_cons_of_mem _ (List.mem_append_left _ (List.mem_append_right _ (List.mem_append_left _ lm17)))), List.forall_mem_cons.mpr ⟨(List.mem_cons_of_mem _ (List.mem_append_left _ (List.mem_append_right _ (List.mem_append_left _ lm18)))), List.forall_mem_cons.mpr ⟨(List.mem_cons_of_mem _ (List.mem_append_left _ (List.mem_append_right _ (List.mem_append_left _ lm19)))), (fun _ h => absurd h List.not_mem_nil)⟩⟩⟩⟩⟩⟩⟩⟩⟩⟩⟩⟩⟩⟩⟩⟩⟩⟩⟩⟩⟩⟩⟩⟩, List.forall_mem_cons.mpr ⟨(List.mem_cons_of_mem _ (List.mem_append_left _ (List.mem_append_right _ (List.mem_append_left _ lm20)))), List.forall_mem_cons.mpr ⟨(List.mem_cons_of_mem _ (List.mem_append_left _ (List.mem_append_right _ (List.mem_append_left _ lm21)))), List.forall_mem_cons.mpr ⟨(List.mem_cons_of_mem _ (List.mem_append_left _ (List.mem_append_right _ (List.mem_append_left _ lm22)))), List.forall_mem_cons.mpr ⟨(List.mem_cons_of_mem _ (List.mem_append_left _ (List.mem_append_right _ (List.mem_append_left _ lm23)))), List.forall_mem_cons.mpr ⟨(List.mem_cons_of_mem _ (List.mem_append_left _ (List.mem_append_right _ (List.mem_append_right _ lm0)))), List.forall_mem_cons.mpr ⟨(List.mem_cons_of_mem _ (List.mem_append_left _ (List.mem_append_right _ (List.mem_append_right _ lm1)))), List.forall_mem_cons.mpr ⟨(List.mem_cons_of_mem _ (List.mem_append_left _ (List.mem_append_right _ (List.mem_append_right _ lm2)))), List.forall_mem_cons.mpr ⟨(List.mem_cons_of_mem _ (List.mem_append_left _ (List.mem_append_right _ (List.mem_append_right _ lm3)))), List.forall_mem_cons.mpr ⟨(List.mem_cons_of_mem _ (List.mem_append_left _ (List.mem_append_right _ (List.mem_append_right _ lm4)))), List.forall_mem_cons.mpr ⟨(List.mem_cons_of_mem _ (List.mem_append_left _ (List.mem_append_right _ (List.mem_append_right _ lm5)))), List.forall_mem_cons.mpr ⟨(List.mem_cons_of_mem _ (List.mem_append_left _ (List.mem_append_right _ (List.mem_append_right _ lm6)))), List.forall_mem_cons.mpr ⟨(List.mem_cons_of_mem _ (List.mem_append_left _ (List.mem_append_right _ (List.mem_append_right _ lm7)))), (fun _ h => absurd h List.not_mem_nil)⟩⟩⟩⟩⟩⟩⟩⟩⟩⟩⟩⟩⟩, (fun _ h => (List.mem_cons_of_mem _ (List.mem_append_right _ h)))⟩⟩) gw_X12_wanted)
theorem gX12_start_X12_tell : GoodIn wsX12_start (wsV RX12 513 RX12 yX12_tell wsX12_tell) := goodIn_app (goodIn_sub (List.forall_mem_cons.mpr ⟨(List.mem_cons_of_mem _ (List.mem_append_left _ (List.mem_append_right _ (List.mem_append_right _ lm8)))), List.forall_mem_cons.mpr ⟨(List.mem_cons_of_mem _ (List.mem_append_left _ (List.mem_append_right _ (List.mem_append_right _ lm9)))), List.forall_mem_cons.mpr ⟨(List.mem_cons_of_mem _ (List.mem_append_left _ (List.mem_append_right _ (List.mem_append_right _ lm10)))), List.forall_mem_cons.mpr ⟨(List.mem_cons_of_mem _ (List.mem_append_left _ (List.mem_append_left _ lm11))), (fun _ h => absurd h List.not_mem_nil)⟩⟩⟩⟩) (by decide +kernel)) (goodIn_sub (by unfold wsX12_tell; exact List.forall_mem_cons.mpr ⟨(List.mem_cons_of_mem _ (List.mem_append_left _ (List.mem_append_right _ (List.mem_append_right _ lm11)))), List.forall_mem_append.mpr ⟨List.forall_mem_cons.mpr ⟨(List.mem_cons_of_mem _ (List.mem_append_left _ (List.mem_append_right _ (List.mem_append_right _ lm12)))), List.forall_mem_cons.mpr ⟨(List.mem_cons_of_mem _ (List.mem_append_left _ (List.mem_append_right _ (List.mem_append_right _ lm13)))), (fun _ h => absurd h List.not_mem_nil)⟩⟩, (fun _ h => (List.mem_cons_of_mem _ (List.mem_append_right _ h)))⟩⟩) gw_X12_tell)
theorem gX12_start_X12_seek : GoodIn wsX12_start (wsV RX12 519 RX12 yX12_seek wsX12_seek) := goodIn_app (goodIn_sub (List.forall_mem_cons.mpr ⟨(List.mem_cons_of_mem _ (List.mem_append_left _ (List.mem_append_right _ (List.mem_append_right _ lm14)))), List.forall_mem_cons.mpr ⟨(List.mem_cons_of_mem _ (List.mem_append_left _ (List.mem_append_right _ (List.mem_append_right _ lm15)))), List.forall_mem_cons.mpr ⟨(List.mem_cons_of_mem _ (List.mem_append_left _ (List.mem_append_right _ (List.mem_append_right _ lm16)))), List.forall_mem_cons.mpr ⟨(List.mem_cons_of_mem _ (List.mem_append_left _ (List.mem_append_left _ lm11))), (fun _ h => absurd h List.not_mem_nil)⟩⟩⟩⟩) (by decide +kernel)) (goodIn_sub (by unfold wsX12_seek; exact List.forall_mem_cons.mpr ⟨(List.mem_cons_of_mem _ (List.mem_append_left _ (List.mem_append_right _ (List.mem_append_right _ lm17)))), List.forall_mem_append.mpr ⟨List.forall_mem_append.mpr ⟨List.forall_mem_cons.mpr ⟨(List.mem_cons_of_mem _ (List.mem_append_left _ (List.mem_append_left _ lm2))), List.forall_mem_cons.mpr ⟨(List.mem_cons_of_mem _ (List.mem_append_left _ (List.mem_append_left _ lm5))), List.forall_mem_cons.mpr ⟨(List.mem_cons_of_mem _ (List.mem_append_left _ (List.mem_append_left _ lm22))), List.forall_mem_cons.mpr ⟨(List.mem_cons_of_mem _ (List.mem_append_left _ (List.mem_append_left _ lm23))), List.forall_mem_cons.mpr ⟨(List.mem_cons_of_mem _ (List.mem_append_left _ (List.mem_append_right _ (List.mem_append_left _ lm0)))), List.forall_mem_cons.mpr ⟨(List.mem_cons_of_mem _ (List.mem_append_left _ (List.mem_append_right _ (List.mem_append_left _ lm1)))), List.forall_mem_cons.mpr ⟨(List.mem_cons_of_mem _ (List.mem_append_left _ (List.mem_append_left _ lm11))), List.forall_mem_cons.mpr ⟨(List.mem_cons_of_mem _ (List.mem_append_left _ (List.mem_append_right _ (List.mem_append_left _ lm2)))), List.forall_mem_cons.mpr ⟨(List.mem_cons_of_mem _ (List.mem_append_left _ (List.mem_append_right _ (List.mem_append_left _ lm3)))), List.forall_mem_cons.mpr ⟨(List.mem_cons_of_mem _ (List.mem_append_left _ (List.mem_append_right _ (List.mem_append_left _ lm4)))), List.forall_mem_cons.mpr ⟨(List.mem_cons_of_mem _ (List.mem_append_left _ (List.mem_append_right _ (List.mem_append_left _ lm5)))), List.forall_mem_cons.mpr ⟨(List.mem_cons_of_mem _ (List.mem_append_left _ (List.mem_append_right _ (List.mem_append_left _ lm6)))), List.forall_mem_cons.mpr ⟨(List.mem_cons_of_mem _ (List.mem_append_left _ (List.mem_append_right _ (List.mem_append_left _ lm7)))), List.forall_mem_cons.mpr ⟨(List.mem_cons_of_mem _ (List.mem_append_left _ (List.mem_append_right _ (List.mem_append_left _ lm8)))), List.forall_mem_cons.mpr ⟨(List.mem_cons_of_mem _ (List.mem_append_left _ (List.mem_append_right _ (List.mem_append_left _ lm9)))), List.forall_mem_cons.mpr ⟨(List.mem_cons_of_mem _ (List.mem_append_left _ (List.mem_append_right _ (List.mem_append_left _ lm10)))), List.forall_mem_cons.mpr ⟨(List.mem_cons_of_mem _ (List.mem_append_left _ (List.mem_append_right _ (List.mem_append_left _ lm11)))), List.forall_mem_cons.mpr ⟨(List.mem_cons_of_mem _ (List.mem_append_left _ (List.mem_append_right _ (List.mem_append_left _ lm12)))), List.forall_mem_cons.mpr ⟨(List.mem_cons_of_mem _ (List.mem_append_left _ (List.mem_append_right _ (List.mem_append_left _ lm13)))), List.forall_mem_cons.mpr ⟨(List.mem_cons_of_mem _ (List.mem_append_left _ (List.mem_append_right _ (List.mem_append_left _ lm14)))), List.forall_mem_cons.mpr ⟨(List.mem_cons_of_mem _ (List.mem_append_left _ (List.mem_append_right _ (List.mem_append_left _ lm15)))), List.forall_mem_cons.mpr ⟨(List.mem_cons_of_mem _ (List.mem_append_left _ (List.mem_append_right _ (List.mem_append_left _ lm16)))), List.forall_mem_cons.mpr ⟨(List.mem_cons_of_mem _ (List.mem_append_left _ (List.mem_append_right _ (List.mem_append_left _ lm17)))), List.forall_mem_cons.mpr ⟨(List.mem_cons_of_mem _ (List.mem_append_left _ (List.mem_append_right _ (List.mem_append_left _ lm18)))), (fun _ h => absurd h List.not_mem_nil)⟩⟩⟩⟩⟩⟩⟩⟩⟩⟩⟩⟩⟩⟩⟩⟩⟩⟩⟩⟩⟩⟩⟩⟩, List.forall_mem_cons.mpr ⟨(List.mem_cons_of_mem _ (List.mem_append_left _ (List.mem_append_right _ (List.mem_append_left _ lm19)))), List.forall_mem_cons.mpr ⟨(List.mem_cons_of_mem _ (List.mem_append_left _ (List.mem_append_right _ (List.mem_append_left _ lm20)))), List.forall_mem_cons.mpr ⟨(List.mem_cons_of_mem _ (List.mem_append_left _ (List.mem_append_right _ (List.mem_append_left _ lm21)))), List.forall_mem_cons.mpr ⟨(List.mem_cons_of_mem _ (List.mem_append_left _ (List.mem_append_right _ (List.mem_append_left _ lm22)))), List.forall_mem_cons.mpr ⟨(List.mem_cons_of_mem _ (List.mem_append_left _ (List.mem_append_right _ (List.mem_append_left _ lm23)))), List.forall_mem_cons.mpr ⟨(List.mem_cons_of_mem _ (List.mem_append_left _ (List.mem_append_right _ (List.mem_append_right _ lm0)))), List.forall_mem_cons.mpr ⟨(List.mem_cons_of_mem _ (List.mem_append_left _ (List.mem_append_right _ (List.mem_append_right _ lm1)))), List.forall_mem_cons.mpr ⟨(List.mem_cons_of_mem _ (List.mem_append_left _ (List.mem_append_right _ (List.mem_append_right _ lm2)))), List.forall_mem_cons.mpr ⟨(List.mem_cons_of_mem _ (List.mem_append_left _ (List.mem_append_right _ (List.mem_append_right _ lm3)))), List.forall_mem_cons.mpr ⟨(List.mem_cons_of_mem _ (List.mem_append_left _ (List.mem_append_right _ (List.mem_append_right _ lm4)))), List.forall_mem_cons.mpr ⟨(List.mem_cons_of_mem _ (List.mem_append_left _ (List.mem_append_right _ (List.mem_append_right _ lm5)))), List.forall_mem_cons.mpr ⟨(List.mem_cons_of_mem _ (List.mem_append_left _ (List.mem_append_right _ (List.mem_append_right _ lm6)))), List.forall_mem_cons.mpr ⟨(List.mem_cons_of_mem _ (List.mem_append_left _ (List.mem_append_right _ (List.mem_append_right _ lm7)))), (fun _ h => absurd h List.not_mem_nil)⟩⟩⟩⟩⟩⟩⟩⟩⟩⟩⟩⟩⟩⟩, (fun _ h => (List.mem_cons_of_mem _ (List.mem_append_right _ h)))⟩⟩) gw_X12_seek)
theorem gX12_start_X12_settle : GoodIn wsX12_start (wsV RX12 522 RX12 yX12_settle wsX12_settle) := goodIn_app (goodIn_sub (List.forall_mem_cons.mpr ⟨(List.mem_cons_of_mem _ (List.mem_append_left _ (List.mem_append_right _ (List.mem_append_right _ lm18)))), List.forall_mem_cons.mpr ⟨(List.mem_cons_of_mem _ (List.mem_append_left _ (List.mem_append_right _ (List.mem_append_right _ lm19)))), List.forall_mem_cons.mpr ⟨(List.mem_cons_of_mem _ (List.mem_append_left _ (List.mem_append_right _ (List.mem_append_right _ lm20)))), List.forall_mem_cons.mpr ⟨(List.mem_cons_of_mem _ (List.mem_append_left _ (List.mem_append_left _ lm11))), (fun _ h => absurd h List.not_mem_nil)⟩⟩⟩⟩) (by decide +kernel)) (goodIn_sub (by unfold wsX12_settle; exact List.forall_mem_cons.mpr ⟨(List.mem_cons_of_mem _ (List.mem_append_left _ (List.mem_append_right _ (List.mem_append_right _ lm21)))), List.forall_mem_append.mpr ⟨List.forall_mem_cons.mpr ⟨(List.mem_cons_of_mem _ (List.mem_append_left _ (List.mem_append_left _ lm2))), List.forall_mem_cons.mpr ⟨(List.mem_cons_of_mem _ (List.mem_append_left _ (List.mem_append_left _ lm5))), List.forall_mem_cons.mpr ⟨(List.mem_cons_of_mem _ (List.mem_append_left _ (List.mem_append_left _ lm0))), List.forall_mem_cons.mpr ⟨(List.mem_cons_of_mem _ (List.mem_append_left _ (List.mem_append_right _ (List.mem_append_right _ lm22)))), List.forall_mem_cons.mpr ⟨(List.mem_cons_of_mem _ (List.mem_append_left _ (List.mem_append_left _ lm7))), List.forall_mem_cons.mpr ⟨(List.mem_cons_of_mem _ (List.mem_append_left _ (List.mem_append_left _ lm3))), List.forall_mem_cons.mpr ⟨(List.mem_cons_of_mem _ (List.mem_append_left _ (List.mem_append_left _ lm4))), List.forall_mem_cons.mpr ⟨(List.mem_cons_of_mem _ (List.mem_append_left _ (List.mem_append_right _ (List.mem_append_right _ lm8)))), List.forall_mem_cons.mpr ⟨(List.mem_cons_of_mem _ (List.mem_append_left _ (List.mem_append_right _ (List.mem_append_right _ lm9)))), List.forall_mem_cons.mpr ⟨(List.mem_cons_of_mem _ (List.mem_append_left _ (List.mem_append_right _ (List.mem_append_right _ lm10)))), List.forall_mem_cons.mpr ⟨(List.mem_cons_of_mem _ (List.mem_append_left _ (List.mem_append_left _ lm11))), List.forall_mem_cons.mpr ⟨(List.mem_cons_of_mem _ (List.mem_append_left _ (List.mem_append_right _ (List.mem_append_right _ lm11)))), List.forall_mem_cons.mpr ⟨(List.mem_cons_of_mem _ (List.mem_append_left _ (List.mem_append_right _ (List.mem_append_right _ lm12)))), List.forall_mem_cons.mpr ⟨(List.mem_cons_of_mem _ (List.mem_append_left _ (List.mem_append_right _ (List.mem_append_right _ lm13)))), (fun _ h => absurd h List.not_mem_nil)⟩⟩⟩⟩⟩⟩⟩⟩⟩⟩⟩⟩⟩⟩, (fun _ h => (List.mem_cons_of_mem _ (List.mem_append_right _ h)))⟩⟩) gw_X12_settle)
set_option maxHeartbeats 2000000 in
set_option maxRecDepth 100000 in
theorem m_read0 (l : Launch) (D : va_G) (g : Nat → Nat) (ka : Nat → ClassId) (ad : Nat → Nat) (i : Nat → Nat → Int32) (r : Nat → Nat → Nat) (L : Nat → Nat → Int64) (d : Nat → Nat → UInt64)  (hO : OkI i) (hR : RS r) (sz : Nat) (hb76 : (i 36 76).toInt = 1) : Met l yX12_read wsX12_read ({ frames := 2, cells := 0, slots := 0, locals := 41 }) (va_Pc [.ref (g 36)] (sj_B D (hwc g ka i r L d) (hT ka) sz (gx ad (va_A (hwc g ka i r L d) sz)))) (sj_Qi (S := (Nat → Nat → Int32)) D (fun v u => OkI u ∧ (∀ a b, ¬ ((a = 36 ∧ (b = 0))) → u a b = i a b)) (fun u => hwc g ka u r L d) (fun _ => []) (va_A (hwc g ka i r L d) sz)) 0 0 (va_A (hwc g ka i r L d) sz) := by
  refine x_met (Ex := gx ad) (cc := cX12_read) (maxL := 5) (ret := (some .int)) (by decide) rfl (Nat.le_of_ble_eq_true rfl) ?_
  intro p e s m below meth c A ls hx hb hr hml hts hown hlocks hA hS hH hK hE hl
  have hown : s.vm.findClass RX12 = some m.cls := hown
  have hl : lv_has ls 5 [(0, .ref (g 36))] := hl
  have hK : va_K D vwCl (hT ka) s := hK
  refine lv_aload_n hx hb dX12_read_0 rfl (lv_at hl 0 rfl) ?_
  refine x_calli (va_runV (As := []) (rest := []) ⟨hx, hb, hml, hown, hts⟩ (m_busy l D g ka ad i r L d  hO hR s.heap.size ) (cwV 0 hts gX12_read_X12_busy rfl rfl rfl (by decide +kernel) ⟨(Nat.le_of_ble_eq_true rfl), (Nat.le_of_ble_eq_true rfl)⟩) (x_preV (q := (RX12, TX12, 86)) hH hK (q_obj (by decide) (rfl : kd 36 = 12) (by decide)) rfl gxb (gxw hE hS (x_F hH hS hA))) rfl rfl hl.1 rfl (lv_room (Nat.le_of_ble_eq_true rfl)) dX12_read_1 ⟨(Nat.le_of_ble_eq_true rfl), (Nat.le_of_ble_eq_true rfl)⟩) hH hS hA rfl rfl (fun r_1 im_3 H locs hw_2 hH hS => ?_)
  have hH : sj_H D A (hwc g ka im_3 r L d) H := hH
  obtain ⟨hO_5, hfr_4, hr_6, he_7⟩ := hw_2
  have hr_6 : (0 : Int) ≤ r_1.toInt ∧ r_1.toInt ≤ 1 := hr_6
  refine lv_if_eq (tgt := 9) hx hb dX12_read_4 (by decide) (fun h => absurd h (p_ne (rfl : r_1.toInt = _) (show (0 : Int32).toInt = 0 from rfl) (by omega))) (fun _ => ?_)
  refine lv_iconst (v := 0) hx hb dX12_read_7 (by decide) ?_
  exact sj_zret hx hb hr hlocks rfl hS im_3 ⟨hO_5, (fun a b ha => (hfr_4 a b (by omega)))⟩ hH (sj_Knil hK) (Nat.le_of_ble_eq_true rfl) (Nat.le_of_ble_eq_true rfl) dX12_read_8
set_option maxHeartbeats 2000000 in
set_option maxRecDepth 100000 in
theorem m_define0 (l : Launch) (D : va_G) (g : Nat → Nat) (ka : Nat → ClassId) (ad : Nat → Nat) (i : Nat → Nat → Int32) (r : Nat → Nat → Nat) (L : Nat → Nat → Int64) (d : Nat → Nat → UInt64) (x : Int32) (hO : OkI i) (hR : RS r) (sz : Nat) (hb76 : (i 36 76).toInt = 1) : Met l yX12_define wsX12_define ({ frames := 2, cells := 0, slots := 0, locals := 41 }) (va_Pc [.ref (g 36), .int x] (sj_B D (hwc g ka i r L d) (hT ka) sz (gx ad (va_A (hwc g ka i r L d) sz)))) (sj_Qi (S := (Nat → Nat → Int32)) D (fun v u => OkI u ∧ (∀ a b, ¬ ((a = 36 ∧ (b = 0))) → u a b = i a b)) (fun u => hwc g ka u r L d) (fun _ => []) (va_A (hwc g ka i r L d) sz)) 0 0 (va_A (hwc g ka i r L d) sz) := by
  refine x_met (Ex := gx ad) (cc := cX12_define) (maxL := 5) (ret := (some .int)) (by decide) rfl (Nat.le_of_ble_eq_true rfl) ?_
  intro p e s m below meth c A ls hx hb hr hml hts hown hlocks hA hS hH hK hE hl
  have hown : s.vm.findClass RX12 = some m.cls := hown
  have hl : lv_has ls 5 [(0, .ref (g 36)), (1, .int x)] := hl
  have hK : va_K D vwCl (hT ka) s := hK
  have hg_1 := s_rng x
  refine lv_aload_n hx hb dX12_define_0 rfl (lv_at hl 0 rfl) ?_
  refine x_calli (va_runV (As := []) (rest := []) ⟨hx, hb, hml, hown, hts⟩ (m_busy l D g ka ad i r L d  hO hR s.heap.size ) (cwV 0 hts gX12_define_X12_busy rfl rfl rfl (by decide +kernel) ⟨(Nat.le_of_ble_eq_true rfl), (Nat.le_of_ble_eq_true rfl)⟩) (x_preV (q := (RX12, TX12, 86)) hH hK (q_obj (by decide) (rfl : kd 36 = 12) (by decide)) rfl gxb (gxw hE hS (x_F hH hS hA))) rfl rfl hl.1 rfl (lv_room (Nat.le_of_ble_eq_true rfl)) dX12_define_1 ⟨(Nat.le_of_ble_eq_true rfl), (Nat.le_of_ble_eq_true rfl)⟩) hH hS hA rfl rfl (fun r_2 im_4 H locs hw_3 hH hS => ?_)
  have hH : sj_H D A (hwc g ka im_4 r L d) H := hH
  obtain ⟨hO_6, hfr_5, hr_7, he_8⟩ := hw_3
  have hr_7 : (0 : Int) ≤ r_2.toInt ∧ r_2.toInt ≤ 1 := hr_7
  refine lv_if_eq (tgt := 9) hx hb dX12_define_4 (by decide) (fun h => absurd h (p_ne (rfl : r_2.toInt = _) (show (0 : Int32).toInt = 0 from rfl) (by omega))) (fun _ => ?_)
  refine lv_iconst (v := 0) hx hb dX12_define_7 (by decide) ?_
  exact sj_zret hx hb hr hlocks rfl hS im_4 ⟨hO_6, (fun a b ha => (hfr_5 a b (by omega)))⟩ hH (sj_Knil hK) (Nat.le_of_ble_eq_true rfl) (Nat.le_of_ble_eq_true rfl) dX12_define_8
set_option maxHeartbeats 2000000 in
set_option maxRecDepth 100000 in
theorem m_hook0 (l : Launch) (D : va_G) (g : Nat → Nat) (ka : Nat → ClassId) (ad : Nat → Nat) (i : Nat → Nat → Int32) (r : Nat → Nat → Nat) (L : Nat → Nat → Int64) (d : Nat → Nat → UInt64) (x : Int32) (y : Int32) (hO : OkI i) (hR : RS r) (sz : Nat) (hb76 : (i 36 76).toInt = 1) : Met l yX12_hook wsX12_hook ({ frames := 2, cells := 0, slots := 0, locals := 41 }) (va_Pc [.ref (g 36), .int x, .int y] (sj_B D (hwc g ka i r L d) (hT ka) sz (gx ad (va_A (hwc g ka i r L d) sz)))) (sj_Qi (S := (Nat → Nat → Int32)) D (fun v u => OkI u ∧ (∀ a b, ¬ ((a = 36 ∧ (b = 0))) → u a b = i a b)) (fun u => hwc g ka u r L d) (fun _ => []) (va_A (hwc g ka i r L d) sz)) 0 0 (va_A (hwc g ka i r L d) sz) := by
  refine x_met (Ex := gx ad) (cc := cX12_hook) (maxL := 4) (ret := (some .int)) (by decide) rfl (Nat.le_of_ble_eq_true rfl) ?_
  intro p e s m below meth c A ls hx hb hr hml hts hown hlocks hA hS hH hK hE hl
  have hown : s.vm.findClass RX12 = some m.cls := hown
  have hl : lv_has ls 4 [(0, .ref (g 36)), (1, .int x), (2, .int y)] := hl
  have hK : va_K D vwCl (hT ka) s := hK
  have hg_1 := s_rng x
  have hg_2 := s_rng y
  refine lv_aload_n hx hb dX12_hook_0 rfl (lv_at hl 0 rfl) ?_
  refine x_calli (va_runV (As := []) (rest := []) ⟨hx, hb, hml, hown, hts⟩ (m_busy l D g ka ad i r L d  hO hR s.heap.size ) (cwV 0 hts gX12_hook_X12_busy rfl rfl rfl (by decide +kernel) ⟨(Nat.le_of_ble_eq_true rfl), (Nat.le_of_ble_eq_true rfl)⟩) (x_preV (q := (RX12, TX12, 86)) hH hK (q_obj (by decide) (rfl : kd 36 = 12) (by decide)) rfl gxb (gxw hE hS (x_F hH hS hA))) rfl rfl hl.1 rfl (lv_room (Nat.le_of_ble_eq_true rfl)) dX12_hook_1 ⟨(Nat.le_of_ble_eq_true rfl), (Nat.le_of_ble_eq_true rfl)⟩) hH hS hA rfl rfl (fun r_3 im_5 H locs hw_4 hH hS => ?_)
  have hH : sj_H D A (hwc g ka im_5 r L d) H := hH
  obtain ⟨hO_7, hfr_6, hr_8, he_9⟩ := hw_4
  have hr_8 : (0 : Int) ≤ r_3.toInt ∧ r_3.toInt ≤ 1 := hr_8
  refine lv_if_eq (tgt := 9) hx hb dX12_hook_4 (by decide) (fun h => absurd h (p_ne (rfl : r_3.toInt = _) (show (0 : Int32).toInt = 0 from rfl) (by omega))) (fun _ => ?_)
  refine lv_iconst (v := 0) hx hb dX12_hook_7 (by decide) ?_
  exact sj_zret hx hb hr hlocks rfl hS im_5 ⟨hO_7, (fun a b ha => (hfr_6 a b (by omega)))⟩ hH (sj_Knil hK) (Nat.le_of_ble_eq_true rfl) (Nat.le_of_ble_eq_true rfl) dX12_hook_8
set_option maxHeartbeats 2000000 in
set_option maxRecDepth 100000 in
theorem m_filter0 (l : Launch) (D : va_G) (g : Nat → Nat) (ka : Nat → ClassId) (ad : Nat → Nat) (i : Nat → Nat → Int32) (r : Nat → Nat → Nat) (L : Nat → Nat → Int64) (d : Nat → Nat → UInt64)  (hO : OkI i) (hR : RS r) (sz : Nat) (hb76 : (i 36 76).toInt = 1) : Met l yX12_filter wsX12_filter ({ frames := 2, cells := 0, slots := 0, locals := 41 }) (va_Pc [.ref (g 36)] (sj_B D (hwc g ka i r L d) (hT ka) sz (gx ad (va_A (hwc g ka i r L d) sz)))) (sj_Qi (S := (Nat → Nat → Int32)) D (fun v u => OkI u ∧ (∀ a b, ¬ ((a = 36 ∧ (b = 0))) → u a b = i a b)) (fun u => hwc g ka u r L d) (fun _ => []) (va_A (hwc g ka i r L d) sz)) 0 0 (va_A (hwc g ka i r L d) sz) := by
  refine x_met (Ex := gx ad) (cc := cX12_filter) (maxL := 1) (ret := (some .int)) (by decide) rfl (Nat.le_of_ble_eq_true rfl) ?_
  intro p e s m below meth c A ls hx hb hr hml hts hown hlocks hA hS hH hK hE hl
  have hown : s.vm.findClass RX12 = some m.cls := hown
  have hl : lv_has ls 1 [(0, .ref (g 36))] := hl
  have hK : va_K D vwCl (hT ka) s := hK
  refine lv_aload_n hx hb dX12_filter_0 rfl (lv_at hl 0 rfl) ?_
  refine x_calli (va_runV (As := []) (rest := []) ⟨hx, hb, hml, hown, hts⟩ (m_busy l D g ka ad i r L d  hO hR s.heap.size ) (cwV 0 hts gX12_filter_X12_busy rfl rfl rfl (by decide +kernel) ⟨(Nat.le_of_ble_eq_true rfl), (Nat.le_of_ble_eq_true rfl)⟩) (x_preV (q := (RX12, TX12, 86)) hH hK (q_obj (by decide) (rfl : kd 36 = 12) (by decide)) rfl gxb (gxw hE hS (x_F hH hS hA))) rfl rfl hl.1 rfl (lv_room (Nat.le_of_ble_eq_true rfl)) dX12_filter_1 ⟨(Nat.le_of_ble_eq_true rfl), (Nat.le_of_ble_eq_true rfl)⟩) hH hS hA rfl rfl (fun r_1 im_3 H locs hw_2 hH hS => ?_)
  have hH : sj_H D A (hwc g ka im_3 r L d) H := hH
  obtain ⟨hO_5, hfr_4, hr_6, he_7⟩ := hw_2
  have hr_6 : (0 : Int) ≤ r_1.toInt ∧ r_1.toInt ≤ 1 := hr_6
  refine lv_if_eq (tgt := 9) hx hb dX12_filter_4 (by decide) (fun h => absurd h (p_ne (rfl : r_1.toInt = _) (show (0 : Int32).toInt = 0 from rfl) (by omega))) (fun _ => ?_)
  refine lv_iconst (v := 0) hx hb dX12_filter_7 (by decide) ?_
  exact sj_zret hx hb hr hlocks rfl hS im_3 ⟨hO_5, (fun a b ha => (hfr_4 a b (by omega)))⟩ hH (sj_Knil hK) (Nat.le_of_ble_eq_true rfl) (Nat.le_of_ble_eq_true rfl) dX12_filter_8
set_option maxHeartbeats 2000000 in
set_option maxRecDepth 100000 in
theorem m_start0 (l : Launch) (D : va_G) (g : Nat → Nat) (ka : Nat → ClassId) (ad : Nat → Nat) (i : Nat → Nat → Int32) (r : Nat → Nat → Nat) (L : Nat → Nat → Int64) (d : Nat → Nat → UInt64) (x : Int32) (hO : OkI i) (hR : RS r) (sz : Nat) (hb76 : (i 36 76).toInt = 1) : Met l yX12_start wsX12_start ({ frames := 2, cells := 0, slots := 0, locals := 41 }) (va_Pc [.ref (g 36), .int x] (sj_B D (hwc g ka i r L d) (hT ka) sz (gx ad (va_A (hwc g ka i r L d) sz)))) (sj_Qi (S := (Nat → Nat → Int32)) D (fun v u => OkI u ∧ (∀ a b, ¬ ((a = 36 ∧ (b = 0))) → u a b = i a b)) (fun u => hwc g ka u r L d) (fun _ => []) (va_A (hwc g ka i r L d) sz)) 0 0 (va_A (hwc g ka i r L d) sz) := by
  refine x_met (Ex := gx ad) (cc := cX12_start) (maxL := 3) (ret := (some .int)) (by decide) rfl (Nat.le_of_ble_eq_true rfl) ?_
  intro p e s m below meth c A ls hx hb hr hml hts hown hlocks hA hS hH hK hE hl
  have hown : s.vm.findClass RX12 = some m.cls := hown
  have hl : lv_has ls 3 [(0, .ref (g 36)), (1, .int x)] := hl
  have hK : va_K D vwCl (hT ka) s := hK
  have hg_1 := s_rng x
  refine lv_aload_n hx hb dX12_start_0 rfl (lv_at hl 0 rfl) ?_
  refine x_calli (va_runV (As := []) (rest := []) ⟨hx, hb, hml, hown, hts⟩ (m_busy l D g ka ad i r L d  hO hR s.heap.size ) (cwV 0 hts gX12_start_X12_busy rfl rfl rfl (by decide +kernel) ⟨(Nat.le_of_ble_eq_true rfl), (Nat.le_of_ble_eq_true rfl)⟩) (x_preV (q := (RX12, TX12, 86)) hH hK (q_obj (by decide) (rfl : kd 36 = 12) (by decide)) rfl gxb (gxw hE hS (x_F hH hS hA))) rfl rfl hl.1 rfl (lv_room (Nat.le_of_ble_eq_true rfl)) dX12_start_1 ⟨(Nat.le_of_ble_eq_true rfl), (Nat.le_of_ble_eq_true rfl)⟩) hH hS hA rfl rfl (fun r_2 im_4 H locs hw_3 hH hS => ?_)
  have hH : sj_H D A (hwc g ka im_4 r L d) H := hH
  obtain ⟨hO_6, hfr_5, hr_7, he_8⟩ := hw_3
  have hr_7 : (0 : Int) ≤ r_2.toInt ∧ r_2.toInt ≤ 1 := hr_7
  refine lv_if_eq (tgt := 9) hx hb dX12_start_4 (by decide) (fun h => absurd h (p_ne (rfl : r_2.toInt = _) (show (0 : Int32).toInt = 0 from rfl) (by omega))) (fun _ => ?_)
  refine lv_iconst (v := 0) hx hb dX12_start_7 (by decide) ?_
  exact sj_zret hx hb hr hlocks rfl hS im_4 ⟨hO_6, (fun a b ha => (hfr_5 a b (by omega)))⟩ hH (sj_Knil hK) (Nat.le_of_ble_eq_true rfl) (Nat.le_of_ble_eq_true rfl) dX12_start_8
set_option maxHeartbeats 2000000 in
set_option maxRecDepth 100000 in
theorem m_hook1 (l : Launch) (D : va_G) (g : Nat → Nat) (ka : Nat → ClassId) (ad : Nat → Nat) (i : Nat → Nat → Int32) (r : Nat → Nat → Nat) (L : Nat → Nat → Int64) (d : Nat → Nat → UInt64) (x : Int32) (y : Int32) (hO : OkI i) (hR : RS r) (sz : Nat) (hx0 : 0 ≤ x.toInt) (hx1 : x.toInt ≤ 1) (hb76 : (i 36 76).toInt = 0) : Met l yX12_hook wsX12_hook ({ frames := 4, cells := 0, slots := 0, locals := 91 }) (va_Pc [.ref (g 36), .int x, .int y] (sj_B D (hwc g ka i r L d) (hT ka) sz (gx ad (va_A (hwc g ka i r L d) sz)))) (sj_Qi (S := (Nat → Nat → Int32)) D (fun v u => OkI u ∧ (∀ a b, ¬ ((a = 36 ∧ (b = 0 ∨ b = 2 ∨ b = 65 ∨ b = 66 ∨ b = 67)) ∨ a = 416 ∨ a = 417 ∨ a = 418 ∨ a = 419 ∨ a = 420 ∨ a = 421) → u a b = i a b) ∧ ((u 36 2).toInt = 0) ∧ (hkM i u x.toInt y.toInt)) (fun u => hwc g ka u r L d) (fun _ => []) (va_A (hwc g ka i r L d) sz)) 0 0 (va_A (hwc g ka i r L d) sz) := by
  refine x_met (Ex := gx ad) (cc := cX12_hook) (maxL := 4) (ret := (some .int)) (by decide) rfl (Nat.le_of_ble_eq_true rfl) ?_
  intro p e s m below meth c A ls hx hb hr hml hts hown hlocks hA hS hH hK hE hl
  have hown : s.vm.findClass RX12 = some m.cls := hown
  have in12 : ∀ w ∈ wsX120, w ∈ wsX12_hook := (fun _ h => (List.mem_cons_of_mem _ (List.mem_append_right _ h)))
  have wd0 := hts (.fieldLink RX12 12 "StoryDeskModel" "text" "[C") (List.mem_cons_of_mem _ (List.mem_append_left _ (List.mem_append_left _ lm0)))
  have wd1 := hts (.fieldLink RX12 7 "StoryDeskModel" "size" "I") (List.mem_cons_of_mem _ (List.mem_append_left _ (List.mem_append_left _ lm1)))
  have wd2 := hts (.fieldLink RX12 1 "StoryDeskModel" "thrown" "I") (List.mem_cons_of_mem _ (List.mem_append_left _ (List.mem_append_left _ lm3)))
  have wd3 := hts (.fieldLink RX12 404 "StoryDeskModel" "hooks" "I") (List.mem_cons_of_mem _ (List.mem_append_left _ (List.mem_append_left _ lm2)))
  have wd4 := hts (.fieldLink RX12 411 "StoryDeskModel" "early" "[Z") (List.mem_cons_of_mem _ (List.mem_append_left _ (List.mem_append_left _ lm4)))
  have wd5 := hts (.fieldLink RX12 415 "StoryDeskModel" "hookScript" "[I") (List.mem_cons_of_mem _ (List.mem_append_left _ (List.mem_append_left _ lm5)))
  have hl : lv_has ls 4 [(0, .ref (g 36)), (1, .int x), (2, .int y)] := hl
  have hK : va_K D vwCl (hT ka) s := hK
  have hg_1 := s_rng y
  have hb67 : (0 : Int) ≤ (i 36 67).toInt ∧ (i 36 67).toInt ≤ 8 := hO 36 67
  have hb2 : (0 : Int) ≤ (i 36 2).toInt ∧ (i 36 2).toInt ≤ 480 := hO 36 2
  refine lv_aload_n hx hb dX12_hook_0 rfl (lv_at hl 0 rfl) ?_
  refine x_calli (va_runV (As := []) (rest := []) ⟨hx, hb, hml, hown, hts⟩ (m_busy l D g ka ad i r L d  hO hR s.heap.size ) (cwV 0 hts gX12_hook_X12_busy rfl rfl rfl (by decide +kernel) ⟨(Nat.le_of_ble_eq_true rfl), (Nat.le_of_ble_eq_true rfl)⟩) (x_preV (q := (RX12, TX12, 86)) hH hK (q_obj (by decide) (rfl : kd 36 = 12) (by decide)) rfl gxb (gxw hE hS (x_F hH hS hA))) rfl rfl hl.1 rfl (lv_room (Nat.le_of_ble_eq_true rfl)) dX12_hook_1 ⟨(Nat.le_of_ble_eq_true rfl), (Nat.le_of_ble_eq_true rfl)⟩) hH hS hA rfl rfl (fun r_2 im_4 H locs hw_3 hH hS => ?_)
  have hH : sj_H D A (hwc g ka im_4 r L d) H := hH
  obtain ⟨hO_6, hfr_5, hr_7, he_8⟩ := hw_3
  have hr_7 : (0 : Int) ≤ r_2.toInt ∧ r_2.toInt ≤ 1 := hr_7
  refine lv_if_eq (tgt := 9) hx hb dX12_hook_4 (by decide) (fun _ => ?_) (fun h => absurd (p_eq (rfl : r_2.toInt = _) (show (0 : Int32).toInt = 0 from rfl) (by omega)) h)
  refine lv_aload_n hx hb dX12_hook_9 rfl (lv_at hl 0 rfl) ?_
  refine lv_aload_n hx hb dX12_hook_10 rfl (lv_at hl 0 rfl) ?_
  refine h_getr (ci := 12) (C := RX12) (F := TX12) (N := 86) hx hb hts in12 hown hK hH (by decide) (rfl : kd 36 = 12) (by decide) rfl 1 (by decide) wd0 (fun _ h9 => h9) (by decide) rfl (t := 379) (hR 36 1 rfl) (by decide) dX12_hook_11 ?_
  refine lv_iconst (v := 0) hx hb dX12_hook_14 (by decide) ?_
  refine lv_aload_n hx hb dX12_hook_15 rfl (lv_at hl 0 rfl) ?_
  have bx_9 : (0 : Int) ≤ (i 36 2).toInt ∧ (i 36 2).toInt ≤ 480 := hO 36 2
  refine h_geti (ci := 12) (C := RX12) (F := TX12) (N := 86) hx hb hts in12 hown hK hH (by decide) (rfl : kd 36 = 12) (by decide) rfl 2 (by decide) wd1 (fun _ h9 => h9) (by decide) rfl dX12_hook_16 ?_
  refine sj_i (y := (i 36 2)) (hfr_5 36 2 (by omega)) ?_
  refine lv_iconst (v := 0) hx hb dX12_hook_19 (by decide) ?_
  have hl_10 : (0 : Int32).toInt = 0 := rfl
  have hl_11 : (0 : Int32).toInt = 0 := rfl
  refine x_calli (va_runV (As := [.ref (g 379), .int 0, .int (i 36 2), .int 0]) (rest := []) ⟨hx, hb, hml, hown, hts⟩ (m_test_text l D g ka ad im_4 r L d 0 (i 36 2) 0 hO_6 hR H.size (by first | omega | decide) (by first | omega | decide) (by first | omega | decide) (by first | omega | decide) (by first | omega | decide)) (cwV 4 hts gX12_hook_X12_test rfl rfl rfl (by decide +kernel) ⟨(Nat.le_of_ble_eq_true rfl), (Nat.le_of_ble_eq_true rfl)⟩) (x_preV (q := (RX12, TX12, 86)) hH hK (q_obj (by decide) (rfl : kd 36 = 12) (by decide)) rfl gxb (gxw hE hS (x_F hH hS hA))) rfl rfl hl.1 rfl (lv_room (Nat.le_of_ble_eq_true rfl)) dX12_hook_20 ⟨(Nat.le_of_ble_eq_true rfl), (Nat.le_of_ble_eq_true rfl)⟩) hH hS hA rfl rfl (fun r_12 im_14 H locs hw_13 hH hS => ?_)
  have hH : sj_H D A (hwc g ka im_14 r L d) H := hH
  obtain ⟨hO_16, hfr_15, hr_17, hx2_18, hx2_19, hx2_20⟩ := hw_13
  have hr_17 : (-1 : Int) ≤ r_12.toInt ∧ r_12.toInt ≤ 1 := hr_17
  have htk := mTk_v (i := i) (v := (r_12 : Int32).toInt) rfl (hx2_18) (hx2_19) (hx2_20)
  refine lv_if_lt (tgt := 40) hx hb dX12_hook_23 (by decide) (fun c_21 => ?_) (fun c_21 => ?_)
  · skip
    have h_22 := s_lt (rfl : r_12.toInt = _) (show (0 : Int32).toInt = 0 from rfl) c_21
    have hnk := (htk.resolve_left (fun q => by have := q.1; omega)).2
    refine lv_iconst (v := 0) hx hb dX12_hook_40 (by decide) ?_
    refine lv_istore_n (lv' := [(3, .int 0), (0, .ref (g 36)), (1, .int x), (2, .int y)]) hx hb dX12_hook_41 rfl hl (by decide) rfl (fun ls hl => ?_)
    refine lv_aload_n hx hb dX12_hook_42 rfl (lv_at hl 1 rfl) ?_
    refine lv_iload_n hx hb dX12_hook_43 rfl (lv_at hl 0 rfl) ?_
    refine lv_if_ne (tgt := 51) hx hb dX12_hook_44 (by decide) (fun h => absurd (by decide) h) (fun _ => ?_)
    refine lv_iconst (v := 2) hx hb dX12_hook_47 (by decide) ?_
    refine lv_goto (tgt := 65) hx hb dX12_hook_48 (by decide) ?_
    have hO_23 := okp hO_16 (n := 36) (k := 0) (v := 2) (show (0 : Int) ≤ (2 : Int32).toInt ∧ (2 : Int32).toInt ≤ 3 from ⟨by decide, by decide⟩)
    refine h_puti (ty := .int) (ci := 12) (C := RX12) (F := TX12) (N := 86) hx hb hts in12 tyX12 tyX12_ok nmX12 hown hK hH hS (by decide) (rfl : kd 36 = 12) (by decide) rfl 0 (by decide) wd2 (fun _ h9 => h9) rfl (by decide +kernel) rfl rfl (by decide) rfl dX12_hook_65 (fun H locs hH hS => ?_)
    refine lv_aload_n hx hb dX12_hook_68 rfl (lv_at hl 1 rfl) ?_
    refine h_geti (ci := 12) (C := RX12) (F := TX12) (N := 86) hx hb hts in12 hown hK hH (by decide) (rfl : kd 36 = 12) (by decide) rfl 0 (by decide) wd2 (fun _ h9 => h9) (by decide) rfl dX12_hook_69 ?_
    refine sj_i (y := 2) (up2_at _ _ _ _) ?_
    refine lv_if_ne (tgt := 83) hx hb dX12_hook_72 (by decide) (fun _ => ?_) (fun h => absurd h (by decide))
    refine lv_aload_n hx hb dX12_hook_83 rfl (lv_at hl 1 rfl) ?_
    refine lv_iconst (v := 0) hx hb dX12_hook_84 (by decide) ?_
    have hO_24 := okp hO_23 (n := 36) (k := 2) (v := 0) (show (0 : Int) ≤ (0 : Int32).toInt ∧ (0 : Int32).toInt ≤ 480 from ⟨by decide, by decide⟩)
    refine h_puti (ty := .int) (ci := 12) (C := RX12) (F := TX12) (N := 86) hx hb hts in12 tyX12 tyX12_ok nmX12 hown hK hH hS (by decide) (rfl : kd 36 = 12) (by decide) rfl 2 (by decide) wd1 (fun _ h9 => h9) rfl (by decide +kernel) rfl rfl (by decide) rfl dX12_hook_85 (fun H locs hH hS => ?_)
    refine lv_aload_n hx hb dX12_hook_88 rfl (lv_at hl 1 rfl) ?_
    refine h_geti (ci := 12) (C := RX12) (F := TX12) (N := 86) hx hb hts in12 hown hK hH (by decide) (rfl : kd 36 = 12) (by decide) rfl 0 (by decide) wd2 (fun _ h9 => h9) (by decide) rfl dX12_hook_89 ?_
    refine sj_i (y := 2) ((up2_k _ _ (by decide)).trans (up2_at _ _ _ _)) ?_
    refine lv_if_le (tgt := 97) hx hb dX12_hook_92 (by decide) (fun h => absurd h (by decide)) (fun _ => ?_)
    refine lv_iconst (v := 0) hx hb dX12_hook_95 (by decide) ?_
    have hp_25 : ((up2 (up2 im_14 36 0 2) 36 2 0) 36 2).toInt = (0 : Int32).toInt := congrArg Int32.toInt ((up2_at _ _ _ _))
    have hl_26 : (0 : Int32).toInt = 0 := rfl
    have hV_27 : ((up2 (up2 im_14 36 0 2) 36 2 0) 36 2).toInt = 0 := (by omega)
    have hV_28 : hkM i (up2 (up2 im_14 36 0 2) 36 2 0) x.toInt y.toInt := (Or.inl ⟨fun q => hnk q.1, ((up2_o _ _ (by omega)).trans ((up2_o _ _ (by omega)).trans ((hfr_15 36 67 (by omega)).trans (hfr_5 36 67 (by omega))))), (funext fun b9 => ((up2_o _ _ (by omega)).trans ((up2_o _ _ (by omega)).trans ((hfr_15 416 b9 (by omega)).trans (hfr_5 416 b9 (by omega)))))), (funext fun b9 => ((up2_o _ _ (by omega)).trans ((up2_o _ _ (by omega)).trans ((hfr_15 417 b9 (by omega)).trans (hfr_5 417 b9 (by omega)))))), (funext fun b9 => ((up2_o _ _ (by omega)).trans ((up2_o _ _ (by omega)).trans ((hfr_15 420 b9 (by omega)).trans (hfr_5 420 b9 (by omega))))))⟩)
    exact sj_zret hx hb hr hlocks rfl hS (up2 (up2 im_14 36 0 2) 36 2 0) ⟨hO_24, (fun a b ha => ((up2_o _ _ (by omega)).trans ((up2_o _ _ (by omega)).trans ((hfr_15 a b (by omega)).trans (hfr_5 a b (by omega)))))), hV_27, hV_28⟩ hH (sj_Knil hK) (Nat.le_of_ble_eq_true rfl) (Nat.le_of_ble_eq_true rfl) dX12_hook_96
  · skip
    have h_29 := s_nlt (rfl : r_12.toInt = _) (show (0 : Int32).toInt = 0 from rfl) c_21
    have hkt := (htk.resolve_right (fun q => by have := q.1; omega)).2
    have hkt1 := hkt.1
    refine lv_iload_n hx hb dX12_hook_26 rfl (lv_at hl 2 rfl) ?_
    refine lv_if_lt (tgt := 40) hx hb dX12_hook_27 (by decide) (fun c_30 => ?_) (fun c_30 => ?_)
    · skip
      have h_31 := s_lt (rfl : y.toInt = _) (show (0 : Int32).toInt = 0 from rfl) c_30
      refine lv_iconst (v := 0) hx hb dX12_hook_40 (by decide) ?_
      refine lv_istore_n (lv' := [(3, .int 0), (0, .ref (g 36)), (1, .int x), (2, .int y)]) hx hb dX12_hook_41 rfl hl (by decide) rfl (fun ls hl => ?_)
      refine lv_aload_n hx hb dX12_hook_42 rfl (lv_at hl 1 rfl) ?_
      refine lv_iload_n hx hb dX12_hook_43 rfl (lv_at hl 0 rfl) ?_
      refine lv_if_ne (tgt := 51) hx hb dX12_hook_44 (by decide) (fun h => absurd (by decide) h) (fun _ => ?_)
      refine lv_iconst (v := 2) hx hb dX12_hook_47 (by decide) ?_
      refine lv_goto (tgt := 65) hx hb dX12_hook_48 (by decide) ?_
      have hO_32 := okp hO_16 (n := 36) (k := 0) (v := 2) (show (0 : Int) ≤ (2 : Int32).toInt ∧ (2 : Int32).toInt ≤ 3 from ⟨by decide, by decide⟩)
      refine h_puti (ty := .int) (ci := 12) (C := RX12) (F := TX12) (N := 86) hx hb hts in12 tyX12 tyX12_ok nmX12 hown hK hH hS (by decide) (rfl : kd 36 = 12) (by decide) rfl 0 (by decide) wd2 (fun _ h9 => h9) rfl (by decide +kernel) rfl rfl (by decide) rfl dX12_hook_65 (fun H locs hH hS => ?_)
      refine lv_aload_n hx hb dX12_hook_68 rfl (lv_at hl 1 rfl) ?_
      refine h_geti (ci := 12) (C := RX12) (F := TX12) (N := 86) hx hb hts in12 hown hK hH (by decide) (rfl : kd 36 = 12) (by decide) rfl 0 (by decide) wd2 (fun _ h9 => h9) (by decide) rfl dX12_hook_69 ?_
      refine sj_i (y := 2) (up2_at _ _ _ _) ?_
      refine lv_if_ne (tgt := 83) hx hb dX12_hook_72 (by decide) (fun _ => ?_) (fun h => absurd h (by decide))
      refine lv_aload_n hx hb dX12_hook_83 rfl (lv_at hl 1 rfl) ?_
      refine lv_iconst (v := 0) hx hb dX12_hook_84 (by decide) ?_
      have hO_33 := okp hO_32 (n := 36) (k := 2) (v := 0) (show (0 : Int) ≤ (0 : Int32).toInt ∧ (0 : Int32).toInt ≤ 480 from ⟨by decide, by decide⟩)
      refine h_puti (ty := .int) (ci := 12) (C := RX12) (F := TX12) (N := 86) hx hb hts in12 tyX12 tyX12_ok nmX12 hown hK hH hS (by decide) (rfl : kd 36 = 12) (by decide) rfl 2 (by decide) wd1 (fun _ h9 => h9) rfl (by decide +kernel) rfl rfl (by decide) rfl dX12_hook_85 (fun H locs hH hS => ?_)
      refine lv_aload_n hx hb dX12_hook_88 rfl (lv_at hl 1 rfl) ?_
      refine h_geti (ci := 12) (C := RX12) (F := TX12) (N := 86) hx hb hts in12 hown hK hH (by decide) (rfl : kd 36 = 12) (by decide) rfl 0 (by decide) wd2 (fun _ h9 => h9) (by decide) rfl dX12_hook_89 ?_
      refine sj_i (y := 2) ((up2_k _ _ (by decide)).trans (up2_at _ _ _ _)) ?_
      refine lv_if_le (tgt := 97) hx hb dX12_hook_92 (by decide) (fun h => absurd h (by decide)) (fun _ => ?_)
      refine lv_iconst (v := 0) hx hb dX12_hook_95 (by decide) ?_
      have hp_34 : ((up2 (up2 im_14 36 0 2) 36 2 0) 36 2).toInt = (0 : Int32).toInt := congrArg Int32.toInt ((up2_at _ _ _ _))
      have hl_35 : (0 : Int32).toInt = 0 := rfl
      have hV_36 : ((up2 (up2 im_14 36 0 2) 36 2 0) 36 2).toInt = 0 := (by omega)
      have hV_37 : hkM i (up2 (up2 im_14 36 0 2) 36 2 0) x.toInt y.toInt := (Or.inl ⟨fun q => by have q1 := q.2.1; have q2 := q.2.2; omega, ((up2_o _ _ (by omega)).trans ((up2_o _ _ (by omega)).trans ((hfr_15 36 67 (by omega)).trans (hfr_5 36 67 (by omega))))), (funext fun b9 => ((up2_o _ _ (by omega)).trans ((up2_o _ _ (by omega)).trans ((hfr_15 416 b9 (by omega)).trans (hfr_5 416 b9 (by omega)))))), (funext fun b9 => ((up2_o _ _ (by omega)).trans ((up2_o _ _ (by omega)).trans ((hfr_15 417 b9 (by omega)).trans (hfr_5 417 b9 (by omega)))))), (funext fun b9 => ((up2_o _ _ (by omega)).trans ((up2_o _ _ (by omega)).trans ((hfr_15 420 b9 (by omega)).trans (hfr_5 420 b9 (by omega))))))⟩)
      exact sj_zret hx hb hr hlocks rfl hS (up2 (up2 im_14 36 0 2) 36 2 0) ⟨hO_33, (fun a b ha => ((up2_o _ _ (by omega)).trans ((up2_o _ _ (by omega)).trans ((hfr_15 a b (by omega)).trans (hfr_5 a b (by omega)))))), hV_36, hV_37⟩ hH (sj_Knil hK) (Nat.le_of_ble_eq_true rfl) (Nat.le_of_ble_eq_true rfl) dX12_hook_96
    · skip
      have h_38 := s_nlt (rfl : y.toInt = _) (show (0 : Int32).toInt = 0 from rfl) c_30
      refine lv_iload_n hx hb dX12_hook_30 rfl (lv_at hl 2 rfl) ?_
      refine lv_bipush (v := 8) hx hb dX12_hook_31 (by decide) ?_
      refine lv_icmp_ge (tgt := 40) hx hb dX12_hook_33 (by decide) (fun c_39 => ?_) (fun c_39 => ?_)
      · skip
        have h_40 := s_le (show (8 : Int32).toInt = 8 from rfl) (rfl : y.toInt = _) c_39
        refine lv_iconst (v := 0) hx hb dX12_hook_40 (by decide) ?_
        refine lv_istore_n (lv' := [(3, .int 0), (0, .ref (g 36)), (1, .int x), (2, .int y)]) hx hb dX12_hook_41 rfl hl (by decide) rfl (fun ls hl => ?_)
        refine lv_aload_n hx hb dX12_hook_42 rfl (lv_at hl 1 rfl) ?_
        refine lv_iload_n hx hb dX12_hook_43 rfl (lv_at hl 0 rfl) ?_
        refine lv_if_ne (tgt := 51) hx hb dX12_hook_44 (by decide) (fun h => absurd (by decide) h) (fun _ => ?_)
        refine lv_iconst (v := 2) hx hb dX12_hook_47 (by decide) ?_
        refine lv_goto (tgt := 65) hx hb dX12_hook_48 (by decide) ?_
        have hO_41 := okp hO_16 (n := 36) (k := 0) (v := 2) (show (0 : Int) ≤ (2 : Int32).toInt ∧ (2 : Int32).toInt ≤ 3 from ⟨by decide, by decide⟩)
        refine h_puti (ty := .int) (ci := 12) (C := RX12) (F := TX12) (N := 86) hx hb hts in12 tyX12 tyX12_ok nmX12 hown hK hH hS (by decide) (rfl : kd 36 = 12) (by decide) rfl 0 (by decide) wd2 (fun _ h9 => h9) rfl (by decide +kernel) rfl rfl (by decide) rfl dX12_hook_65 (fun H locs hH hS => ?_)
        refine lv_aload_n hx hb dX12_hook_68 rfl (lv_at hl 1 rfl) ?_
        refine h_geti (ci := 12) (C := RX12) (F := TX12) (N := 86) hx hb hts in12 hown hK hH (by decide) (rfl : kd 36 = 12) (by decide) rfl 0 (by decide) wd2 (fun _ h9 => h9) (by decide) rfl dX12_hook_69 ?_
        refine sj_i (y := 2) (up2_at _ _ _ _) ?_
        refine lv_if_ne (tgt := 83) hx hb dX12_hook_72 (by decide) (fun _ => ?_) (fun h => absurd h (by decide))
        refine lv_aload_n hx hb dX12_hook_83 rfl (lv_at hl 1 rfl) ?_
        refine lv_iconst (v := 0) hx hb dX12_hook_84 (by decide) ?_
        have hO_42 := okp hO_41 (n := 36) (k := 2) (v := 0) (show (0 : Int) ≤ (0 : Int32).toInt ∧ (0 : Int32).toInt ≤ 480 from ⟨by decide, by decide⟩)
        refine h_puti (ty := .int) (ci := 12) (C := RX12) (F := TX12) (N := 86) hx hb hts in12 tyX12 tyX12_ok nmX12 hown hK hH hS (by decide) (rfl : kd 36 = 12) (by decide) rfl 2 (by decide) wd1 (fun _ h9 => h9) rfl (by decide +kernel) rfl rfl (by decide) rfl dX12_hook_85 (fun H locs hH hS => ?_)
        refine lv_aload_n hx hb dX12_hook_88 rfl (lv_at hl 1 rfl) ?_
        refine h_geti (ci := 12) (C := RX12) (F := TX12) (N := 86) hx hb hts in12 hown hK hH (by decide) (rfl : kd 36 = 12) (by decide) rfl 0 (by decide) wd2 (fun _ h9 => h9) (by decide) rfl dX12_hook_89 ?_
        refine sj_i (y := 2) ((up2_k _ _ (by decide)).trans (up2_at _ _ _ _)) ?_
        refine lv_if_le (tgt := 97) hx hb dX12_hook_92 (by decide) (fun h => absurd h (by decide)) (fun _ => ?_)
        refine lv_iconst (v := 0) hx hb dX12_hook_95 (by decide) ?_
        have hp_43 : ((up2 (up2 im_14 36 0 2) 36 2 0) 36 2).toInt = (0 : Int32).toInt := congrArg Int32.toInt ((up2_at _ _ _ _))
        have hl_44 : (0 : Int32).toInt = 0 := rfl
        have hV_45 : ((up2 (up2 im_14 36 0 2) 36 2 0) 36 2).toInt = 0 := (by omega)
        have hV_46 : hkM i (up2 (up2 im_14 36 0 2) 36 2 0) x.toInt y.toInt := (Or.inl ⟨fun q => by have q1 := q.2.1; have q2 := q.2.2; omega, ((up2_o _ _ (by omega)).trans ((up2_o _ _ (by omega)).trans ((hfr_15 36 67 (by omega)).trans (hfr_5 36 67 (by omega))))), (funext fun b9 => ((up2_o _ _ (by omega)).trans ((up2_o _ _ (by omega)).trans ((hfr_15 416 b9 (by omega)).trans (hfr_5 416 b9 (by omega)))))), (funext fun b9 => ((up2_o _ _ (by omega)).trans ((up2_o _ _ (by omega)).trans ((hfr_15 417 b9 (by omega)).trans (hfr_5 417 b9 (by omega)))))), (funext fun b9 => ((up2_o _ _ (by omega)).trans ((up2_o _ _ (by omega)).trans ((hfr_15 420 b9 (by omega)).trans (hfr_5 420 b9 (by omega))))))⟩)
        exact sj_zret hx hb hr hlocks rfl hS (up2 (up2 im_14 36 0 2) 36 2 0) ⟨hO_42, (fun a b ha => ((up2_o _ _ (by omega)).trans ((up2_o _ _ (by omega)).trans ((hfr_15 a b (by omega)).trans (hfr_5 a b (by omega)))))), hV_45, hV_46⟩ hH (sj_Knil hK) (Nat.le_of_ble_eq_true rfl) (Nat.le_of_ble_eq_true rfl) dX12_hook_96
      · skip
        have h_47 := s_nle (show (8 : Int32).toInt = 8 from rfl) (rfl : y.toInt = _) c_39
        refine lv_iconst (v := 1) hx hb dX12_hook_36 (by decide) ?_
        refine lv_goto (tgt := 41) hx hb dX12_hook_37 (by decide) ?_
        refine lv_istore_n (lv' := [(3, .int 1), (0, .ref (g 36)), (1, .int x), (2, .int y)]) hx hb dX12_hook_41 rfl hl (by decide) rfl (fun ls hl => ?_)
        refine lv_aload_n hx hb dX12_hook_42 rfl (lv_at hl 1 rfl) ?_
        refine lv_iload_n hx hb dX12_hook_43 rfl (lv_at hl 0 rfl) ?_
        refine lv_if_ne (tgt := 51) hx hb dX12_hook_44 (by decide) (fun _ => ?_) (fun h => absurd h (by decide))
        refine lv_aload_n hx hb dX12_hook_51 rfl (lv_at hl 1 rfl) ?_
        have bx_48 : (0 : Int) ≤ (i 36 67).toInt ∧ (i 36 67).toInt ≤ 8 := hO 36 67
        refine h_geti (ci := 12) (C := RX12) (F := TX12) (N := 86) hx hb hts in12 hown hK hH (by decide) (rfl : kd 36 = 12) (by decide) rfl 67 (by decide) wd3 (fun _ h9 => h9) (by decide) rfl dX12_hook_52 ?_
        refine sj_i (y := (i 36 67)) ((hfr_15 36 67 (by omega)).trans (hfr_5 36 67 (by omega))) ?_
        refine lv_bipush (v := 8) hx hb dX12_hook_55 (by decide) ?_
        refine lv_icmp_ne (tgt := 64) hx hb dX12_hook_57 (by decide) (fun c_49 => ?_) (fun c_49 => ?_)
        · skip
          have h_50 := s_ne (rfl : (i 36 67).toInt = _) (show (8 : Int32).toInt = 8 from rfl) c_49
          refine lv_iconst (v := 0) hx hb dX12_hook_64 (by decide) ?_
          have hO_51 := okp hO_16 (n := 36) (k := 0) (v := 0) (show (0 : Int) ≤ (0 : Int32).toInt ∧ (0 : Int32).toInt ≤ 3 from ⟨by decide, by decide⟩)
          refine h_puti (ty := .int) (ci := 12) (C := RX12) (F := TX12) (N := 86) hx hb hts in12 tyX12 tyX12_ok nmX12 hown hK hH hS (by decide) (rfl : kd 36 = 12) (by decide) rfl 0 (by decide) wd2 (fun _ h9 => h9) rfl (by decide +kernel) rfl rfl (by decide) rfl dX12_hook_65 (fun H locs hH hS => ?_)
          refine lv_aload_n hx hb dX12_hook_68 rfl (lv_at hl 1 rfl) ?_
          refine h_geti (ci := 12) (C := RX12) (F := TX12) (N := 86) hx hb hts in12 hown hK hH (by decide) (rfl : kd 36 = 12) (by decide) rfl 0 (by decide) wd2 (fun _ h9 => h9) (by decide) rfl dX12_hook_69 ?_
          refine sj_i (y := 0) (up2_at _ _ _ _) ?_
          refine lv_if_ne (tgt := 83) hx hb dX12_hook_72 (by decide) (fun h => absurd (by decide) h) (fun _ => ?_)
          refine lv_aload_n hx hb dX12_hook_75 rfl (lv_at hl 1 rfl) ?_
          refine lv_aload_n hx hb dX12_hook_76 rfl (lv_at hl 1 rfl) ?_
          refine h_geti (ci := 12) (C := RX12) (F := TX12) (N := 86) hx hb hts in12 hown hK hH (by decide) (rfl : kd 36 = 12) (by decide) rfl 67 (by decide) wd3 (fun _ h9 => h9) (by decide) rfl dX12_hook_77 ?_
          refine sj_i (y := (i 36 67)) ((up2_k _ _ (by decide)).trans ((hfr_15 36 67 (by omega)).trans (hfr_5 36 67 (by omega)))) ?_
          refine x_callv (va_runV (As := [.int (i 36 67)]) (rest := []) ⟨hx, hb, hml, hown, hts⟩ (m_keep l D g ka ad (up2 im_14 36 0 0) r L d (i 36 67) hO_51 hR H.size (by first | omega | decide) (by first | omega | decide) (by first | omega | decide)) (cwV 1 hts gX12_hook_X12_keep rfl rfl rfl (by decide +kernel) ⟨(Nat.le_of_ble_eq_true rfl), (Nat.le_of_ble_eq_true rfl)⟩) (x_preV (q := (RX12, TX12, 86)) hH hK (q_obj (by decide) (rfl : kd 36 = 12) (by decide)) rfl gxb (gxw hE hS (x_F hH hS hA))) rfl rfl hl.1 rfl (lv_room (Nat.le_of_ble_eq_true rfl)) dX12_hook_80 ⟨(Nat.le_of_ble_eq_true rfl), (Nat.le_of_ble_eq_true rfl)⟩) hH hS hA rfl rfl (fun im_54 H locs hw_53 hH hS => ?_)
          have hH : sj_H D A (hwc g ka im_54 r L d) H := hH
          obtain ⟨hO_56, hfr_55, hx2_57, hx2_58, hx2_59, hx2_60⟩ := hw_53
          refine lv_aload_n hx hb dX12_hook_83 rfl (lv_at hl 1 rfl) ?_
          refine lv_iconst (v := 0) hx hb dX12_hook_84 (by decide) ?_
          have hO_61 := okp hO_56 (n := 36) (k := 2) (v := 0) (show (0 : Int) ≤ (0 : Int32).toInt ∧ (0 : Int32).toInt ≤ 480 from ⟨by decide, by decide⟩)
          refine h_puti (ty := .int) (ci := 12) (C := RX12) (F := TX12) (N := 86) hx hb hts in12 tyX12 tyX12_ok nmX12 hown hK hH hS (by decide) (rfl : kd 36 = 12) (by decide) rfl 2 (by decide) wd1 (fun _ h9 => h9) rfl (by decide +kernel) rfl rfl (by decide) rfl dX12_hook_85 (fun H locs hH hS => ?_)
          refine lv_aload_n hx hb dX12_hook_88 rfl (lv_at hl 1 rfl) ?_
          refine h_geti (ci := 12) (C := RX12) (F := TX12) (N := 86) hx hb hts in12 hown hK hH (by decide) (rfl : kd 36 = 12) (by decide) rfl 0 (by decide) wd2 (fun _ h9 => h9) (by decide) rfl dX12_hook_89 ?_
          refine sj_i (y := 0) ((up2_k _ _ (by decide)).trans ((hfr_55 36 0 (by omega)).trans (up2_at _ _ _ _))) ?_
          refine lv_if_le (tgt := 97) hx hb dX12_hook_92 (by decide) (fun _ => ?_) (fun h => absurd (by decide) h)
          refine lv_aload_n hx hb dX12_hook_97 rfl (lv_at hl 1 rfl) ?_
          refine h_getr (ci := 12) (C := RX12) (F := TX12) (N := 86) hx hb hts in12 hown hK hH (by decide) (rfl : kd 36 = 12) (by decide) rfl 68 (by decide) wd4 (fun _ h9 => h9) (by decide) rfl (t := 420) (hR 36 68 rfl) (by decide) dX12_hook_98 ?_
          refine lv_aload_n hx hb dX12_hook_101 rfl (lv_at hl 1 rfl) ?_
          refine h_geti (ci := 12) (C := RX12) (F := TX12) (N := 86) hx hb hts in12 hown hK hH (by decide) (rfl : kd 36 = 12) (by decide) rfl 67 (by decide) wd3 (fun _ h9 => h9) (by decide) rfl dX12_hook_102 ?_
          refine sj_i (y := (i 36 67)) ((up2_k _ _ (by decide)).trans ((hfr_55 36 67 (by omega)).trans ((up2_k _ _ (by decide)).trans ((hfr_15 36 67 (by omega)).trans (hfr_5 36 67 (by omega)))))) ?_
          refine lv_iload_n hx hb dX12_hook_105 rfl (lv_at hl 2 rfl) ?_
          obtain ⟨z_62, ez_62⟩ : ∃ z, vp_nar .boolean x = z := ⟨_, rfl⟩
          have hz_62 : z_62.toInt = x.toInt := by rw [← ez_62, s_narb (rfl : x.toInt = _) (by omega) (by omega)] <;> exact (rfl : x.toInt = _)
          have hO_63 := okp hO_61 (n := 420) (k := ((i 36 67).toInt).toNat) (v := z_62) (show (0 : Int) ≤ (z_62 : Int32).toInt ∧ (z_62 : Int32).toInt ≤ 1 from ⟨by omega, by omega⟩)
          refine h_zast hx hb hK hH hS (by decide) (rfl : kd 420 = 15) (s_vin (N := 8) (rfl : (i 36 67).toInt = _) (rfl : ln 420 = 8) (by omega) (by omega)) dX12_hook_106 (fun H locs hH hS => ?_)
          rw [ez_62] at hH
          rw [s_cl (show (i 36 67).toInt = (i 36 67).toInt by omega)] at hH
          refine lv_aload_n hx hb dX12_hook_107 rfl (lv_at hl 1 rfl) ?_
          refine h_getr (ci := 12) (C := RX12) (F := TX12) (N := 86) hx hb hts in12 hown hK hH (by decide) (rfl : kd 36 = 12) (by decide) rfl 69 (by decide) wd5 (fun _ h9 => h9) (by decide) rfl (t := 421) (hR 36 69 rfl) (by decide) dX12_hook_108 ?_
          refine lv_aload_n hx hb dX12_hook_111 rfl (lv_at hl 1 rfl) ?_
          refine h_geti (ci := 12) (C := RX12) (F := TX12) (N := 86) hx hb hts in12 hown hK hH (by decide) (rfl : kd 36 = 12) (by decide) rfl 67 (by decide) wd3 (fun _ h9 => h9) (by decide) rfl dX12_hook_112 ?_
          refine sj_i (y := (i 36 67)) ((congrFun (up2_n _ _ (by decide)) _).trans ((up2_k _ _ (by decide)).trans ((hfr_55 36 67 (by omega)).trans ((up2_k _ _ (by decide)).trans ((hfr_15 36 67 (by omega)).trans (hfr_5 36 67 (by omega))))))) ?_
          refine lv_iload_n hx hb dX12_hook_115 rfl (lv_at hl 3 rfl) ?_
          have hO_64 := okp hO_63 (n := 421) (k := ((i 36 67).toInt).toNat) (v := y) (show (0 : Int) ≤ (y : Int32).toInt ∧ (y : Int32).toInt ≤ 7 from ⟨by omega, by omega⟩)
          refine h_iast hx hb hK hH hS (by decide) (rfl : kd 421 = 13) (s_vin (N := 8) (rfl : (i 36 67).toInt = _) (rfl : ln 421 = 8) (by omega) (by omega)) dX12_hook_116 (fun H locs hH hS => ?_)
          rw [s_cl (show (i 36 67).toInt = (i 36 67).toInt by omega)] at hH
          refine lv_aload_n hx hb dX12_hook_117 rfl (lv_at hl 1 rfl) ?_
          refine lv_dup hx hb dX12_hook_118 rfl ?_
          refine h_geti (ci := 12) (C := RX12) (F := TX12) (N := 86) hx hb hts in12 hown hK hH (by decide) (rfl : kd 36 = 12) (by decide) rfl 67 (by decide) wd3 (fun _ h9 => h9) (by decide) rfl dX12_hook_119 ?_
          refine sj_i (y := (i 36 67)) ((congrFun (up2_n _ _ (by decide)) _).trans ((congrFun (up2_n _ _ (by decide)) _).trans ((up2_k _ _ (by decide)).trans ((hfr_55 36 67 (by omega)).trans ((up2_k _ _ (by decide)).trans ((hfr_15 36 67 (by omega)).trans (hfr_5 36 67 (by omega)))))))) ?_
          refine lv_iconst (v := 1) hx hb dX12_hook_122 (by decide) ?_
          refine lv_iadd hx hb dX12_hook_123 ?_
          obtain ⟨z_65, ez_65, hz_65⟩ := s_add (rfl : (i 36 67).toInt = _) (show (1 : Int32).toInt = 1 from rfl) (by omega) (by omega)
          refine sj_i ez_65 ?_
          have hO_66 := okp hO_64 (n := 36) (k := 67) (v := z_65) (show (0 : Int) ≤ (z_65 : Int32).toInt ∧ (z_65 : Int32).toInt ≤ 8 from ⟨by omega, by omega⟩)
          refine h_puti (ty := .int) (ci := 12) (C := RX12) (F := TX12) (N := 86) hx hb hts in12 tyX12 tyX12_ok nmX12 hown hK hH hS (by decide) (rfl : kd 36 = 12) (by decide) rfl 67 (by decide) wd3 (fun _ h9 => h9) rfl (by decide +kernel) rfl rfl (by decide) rfl dX12_hook_124 (fun H locs hH hS => ?_)
          refine lv_aload_n hx hb dX12_hook_127 rfl (lv_at hl 1 rfl) ?_
          refine h_geti (ci := 12) (C := RX12) (F := TX12) (N := 86) hx hb hts in12 hown hK hH (by decide) (rfl : kd 36 = 12) (by decide) rfl 67 (by decide) wd3 (fun _ h9 => h9) (by decide) rfl dX12_hook_128 ?_
          refine sj_i (y := z_65) (up2_at _ _ _ _) ?_
          refine lv_iconst (v := 1) hx hb dX12_hook_131 (by decide) ?_
          refine lv_isub hx hb dX12_hook_132 ?_
          obtain ⟨z_67, ez_67, hz_67⟩ := s_sub (rfl : z_65.toInt = _) (show (1 : Int32).toInt = 1 from rfl) (by omega) (by omega)
          refine sj_i ez_67 ?_
          have hp_68 : ((up2 (up2 (up2 (up2 im_54 36 2 0) 420 ((i 36 67).toInt).toNat z_62) 421 ((i 36 67).toInt).toNat y) 36 67 z_65) 36 2).toInt = (0 : Int32).toInt := congrArg Int32.toInt (((up2_k _ _ (by decide)).trans ((congrFun (up2_n _ _ (by decide)) _).trans ((congrFun (up2_n _ _ (by decide)) _).trans (up2_at _ _ _ _)))))
          have hl_69 : (0 : Int32).toInt = 0 := rfl
          have hV_70 : ((up2 (up2 (up2 (up2 im_54 36 2 0) 420 ((i 36 67).toInt).toNat z_62) 421 ((i 36 67).toInt).toNat y) 36 67 z_65) 36 2).toInt = 0 := (by omega)
          have ha16 : (up2 (up2 (up2 (up2 im_54 36 2 0) 420 ((i 36 67).toInt).toNat z_62) 421 ((i 36 67).toInt).toNat y) 36 67 z_65) 416 = im_54 416 := (funext fun b9 => ((up2_o _ _ (by omega)).trans ((up2_o _ _ (by omega)).trans ((up2_o _ _ (by omega)).trans (up2_o _ _ (by omega))))))
          have ha17 : (up2 (up2 (up2 (up2 im_54 36 2 0) 420 ((i 36 67).toInt).toNat z_62) 421 ((i 36 67).toInt).toNat y) 36 67 z_65) 417 = im_54 417 := (funext fun b9 => ((up2_o _ _ (by omega)).trans ((up2_o _ _ (by omega)).trans ((up2_o _ _ (by omega)).trans (up2_o _ _ (by omega))))))
          have hkxe : ((i 36 67) : Int32).toInt = (i 36 67).toInt := rfl
          have hkz : ((up2 im_14 36 0 0) 36 2).toInt = (i 36 2).toInt := congrArg Int32.toInt (show (up2 im_14 36 0 0) 36 2 = i 36 2 from ((up2_o _ _ (by omega)).trans ((hfr_15 36 2 (by omega)).trans (hfr_5 36 2 (by omega)))))
          have hnew : tgLM (up2 (up2 (up2 (up2 im_54 36 2 0) 420 ((i 36 67).toInt).toNat z_62) 421 ((i 36 67).toInt).toNat y) 36 67 z_65) (i 36 67).toInt.toNat = mTx i := tgLM_new (x := (i 36 67).toInt) (by omega) (by omega) (by
              rw [ha17]
              have h9 := hx2_57
              rw [hkxe, hkz] at h9
              exact h9) (by
              intro k hk
              have h9 := hx2_59 k (by omega)
              rw [hkxe] at h9
              rw [ha16, h9]
              exact congrArg Int32.toInt (show (up2 im_14 36 0 0) 379 k = i 379 k from ((up2_o _ _ (by omega)).trans ((hfr_15 379 k (by omega)).trans (hfr_5 379 k (by omega))))))
          have hold : ∀ h : Nat, h ≠ (i 36 67).toInt.toNat → tgLM (up2 (up2 (up2 (up2 im_54 36 2 0) 420 ((i 36 67).toInt).toNat z_62) 421 ((i 36 67).toInt).toNat y) 36 67 z_65) h = tgLM i h := tgLM_old (x := (i 36 67).toInt) (by omega) (fun k => (hO 417 k).2) (by
              intro k hk
              have h9 := hx2_58 k (by rw [hkxe]; exact hk)
              rw [ha17, h9]
              exact ((up2_o _ _ (by omega)).trans ((hfr_15 417 k (by omega)).trans (hfr_5 417 k (by omega))))) (by
              intro k hk
              have h9 := hx2_60 k (by rw [hkxe]; exact hk)
              rw [ha16, h9]
              exact ((up2_o _ _ (by omega)).trans ((hfr_15 416 k (by omega)).trans (hfr_5 416 k (by omega)))))
          have hp_71 : ((up2 (up2 (up2 (up2 im_54 36 2 0) 420 ((i 36 67).toInt).toNat z_62) 421 ((i 36 67).toInt).toNat y) 36 67 z_65) 36 67).toInt = (z_65 : Int32).toInt := congrArg Int32.toInt ((up2_at _ _ _ _))
          have hq20 : ((up2 (up2 (up2 (up2 im_54 36 2 0) 420 ((i 36 67).toInt).toNat z_62) 421 ((i 36 67).toInt).toNat y) 36 67 z_65) 420 (i 36 67).toInt.toNat).toInt = (z_62 : Int32).toInt := congrArg Int32.toInt (((congrFun (up2_n _ _ (by decide)) _).trans ((congrFun (up2_n _ _ (by decide)) _).trans (up2_at _ _ _ _))))
          have hV_72 : hkM i (up2 (up2 (up2 (up2 im_54 36 2 0) 420 ((i 36 67).toInt).toNat z_62) 421 ((i 36 67).toInt).toNat y) 36 67 z_65) x.toInt y.toInt := (Or.inr ⟨⟨hkt, ⟨by omega, by omega⟩, by omega⟩, by omega, hnew, by omega, fun h hh => ⟨hold h hh, ((up2_o _ _ (by omega)).trans ((up2_o _ _ (by omega)).trans ((up2_o _ _ (by omega)).trans ((up2_o _ _ (by omega)).trans ((hfr_55 420 h (by omega)).trans ((up2_o _ _ (by omega)).trans ((hfr_15 420 h (by omega)).trans (hfr_5 420 h (by omega)))))))))⟩⟩)
          exact sj_zret hx hb hr hlocks rfl hS (up2 (up2 (up2 (up2 im_54 36 2 0) 420 ((i 36 67).toInt).toNat z_62) 421 ((i 36 67).toInt).toNat y) 36 67 z_65) ⟨hO_66, (fun a b ha => ((up2_o _ _ (by omega)).trans ((up2_o _ _ (by omega)).trans ((up2_o _ _ (by omega)).trans ((up2_o _ _ (by omega)).trans ((hfr_55 a b (by omega)).trans ((up2_o _ _ (by omega)).trans ((hfr_15 a b (by omega)).trans (hfr_5 a b (by omega)))))))))), hV_70, hV_72⟩ hH (sj_Knil hK) (Nat.le_of_ble_eq_true rfl) (Nat.le_of_ble_eq_true rfl) dX12_hook_133
        · skip
          have h_73 := s_eq (rfl : (i 36 67).toInt = _) (show (8 : Int32).toInt = 8 from rfl) c_49
          refine lv_iconst (v := 3) hx hb dX12_hook_60 (by decide) ?_
          refine lv_goto (tgt := 65) hx hb dX12_hook_61 (by decide) ?_
          have hO_74 := okp hO_16 (n := 36) (k := 0) (v := 3) (show (0 : Int) ≤ (3 : Int32).toInt ∧ (3 : Int32).toInt ≤ 3 from ⟨by decide, by decide⟩)
          refine h_puti (ty := .int) (ci := 12) (C := RX12) (F := TX12) (N := 86) hx hb hts in12 tyX12 tyX12_ok nmX12 hown hK hH hS (by decide) (rfl : kd 36 = 12) (by decide) rfl 0 (by decide) wd2 (fun _ h9 => h9) rfl (by decide +kernel) rfl rfl (by decide) rfl dX12_hook_65 (fun H locs hH hS => ?_)
          refine lv_aload_n hx hb dX12_hook_68 rfl (lv_at hl 1 rfl) ?_
          refine h_geti (ci := 12) (C := RX12) (F := TX12) (N := 86) hx hb hts in12 hown hK hH (by decide) (rfl : kd 36 = 12) (by decide) rfl 0 (by decide) wd2 (fun _ h9 => h9) (by decide) rfl dX12_hook_69 ?_
          refine sj_i (y := 3) (up2_at _ _ _ _) ?_
          refine lv_if_ne (tgt := 83) hx hb dX12_hook_72 (by decide) (fun _ => ?_) (fun h => absurd h (by decide))
          refine lv_aload_n hx hb dX12_hook_83 rfl (lv_at hl 1 rfl) ?_
          refine lv_iconst (v := 0) hx hb dX12_hook_84 (by decide) ?_
          have hO_75 := okp hO_74 (n := 36) (k := 2) (v := 0) (show (0 : Int) ≤ (0 : Int32).toInt ∧ (0 : Int32).toInt ≤ 480 from ⟨by decide, by decide⟩)
          refine h_puti (ty := .int) (ci := 12) (C := RX12) (F := TX12) (N := 86) hx hb hts in12 tyX12 tyX12_ok nmX12 hown hK hH hS (by decide) (rfl : kd 36 = 12) (by decide) rfl 2 (by decide) wd1 (fun _ h9 => h9) rfl (by decide +kernel) rfl rfl (by decide) rfl dX12_hook_85 (fun H locs hH hS => ?_)
          refine lv_aload_n hx hb dX12_hook_88 rfl (lv_at hl 1 rfl) ?_
          refine h_geti (ci := 12) (C := RX12) (F := TX12) (N := 86) hx hb hts in12 hown hK hH (by decide) (rfl : kd 36 = 12) (by decide) rfl 0 (by decide) wd2 (fun _ h9 => h9) (by decide) rfl dX12_hook_89 ?_
          refine sj_i (y := 3) ((up2_k _ _ (by decide)).trans (up2_at _ _ _ _)) ?_
          refine lv_if_le (tgt := 97) hx hb dX12_hook_92 (by decide) (fun h => absurd h (by decide)) (fun _ => ?_)
          refine lv_iconst (v := 0) hx hb dX12_hook_95 (by decide) ?_
          have hp_76 : ((up2 (up2 im_14 36 0 3) 36 2 0) 36 2).toInt = (0 : Int32).toInt := congrArg Int32.toInt ((up2_at _ _ _ _))
          have hl_77 : (0 : Int32).toInt = 0 := rfl
          have hV_78 : ((up2 (up2 im_14 36 0 3) 36 2 0) 36 2).toInt = 0 := (by omega)
          have hV_79 : hkM i (up2 (up2 im_14 36 0 3) 36 2 0) x.toInt y.toInt := (Or.inl ⟨fun q => by have q1 := q.2.1; have q2 := q.2.2; omega, ((up2_o _ _ (by omega)).trans ((up2_o _ _ (by omega)).trans ((hfr_15 36 67 (by omega)).trans (hfr_5 36 67 (by omega))))), (funext fun b9 => ((up2_o _ _ (by omega)).trans ((up2_o _ _ (by omega)).trans ((hfr_15 416 b9 (by omega)).trans (hfr_5 416 b9 (by omega)))))), (funext fun b9 => ((up2_o _ _ (by omega)).trans ((up2_o _ _ (by omega)).trans ((hfr_15 417 b9 (by omega)).trans (hfr_5 417 b9 (by omega)))))), (funext fun b9 => ((up2_o _ _ (by omega)).trans ((up2_o _ _ (by omega)).trans ((hfr_15 420 b9 (by omega)).trans (hfr_5 420 b9 (by omega))))))⟩)
          exact sj_zret hx hb hr hlocks rfl hS (up2 (up2 im_14 36 0 3) 36 2 0) ⟨hO_75, (fun a b ha => ((up2_o _ _ (by omega)).trans ((up2_o _ _ (by omega)).trans ((hfr_15 a b (by omega)).trans (hfr_5 a b (by omega)))))), hV_78, hV_79⟩ hH (sj_Knil hK) (Nat.le_of_ble_eq_true rfl) (Nat.le_of_ble_eq_true rfl) dX12_hook_96
set_option maxHeartbeats 2000000 in
set_option maxRecDepth 100000 in
theorem m_filter1 (l : Launch) (D : va_G) (g : Nat → Nat) (ka : Nat → ClassId) (ad : Nat → Nat) (i : Nat → Nat → Int32) (r : Nat → Nat → Nat) (L : Nat → Nat → Int64) (d : Nat → Nat → UInt64)  (hO : OkI i) (hR : RS r) (sz : Nat) (hb76 : (i 36 76).toInt = 0) : Met l yX12_filter wsX12_filter ({ frames := 6, cells := 0, slots := 0, locals := 135 }) (va_Pc [.ref (g 36)] (sj_B D (hwc g ka i r L d) (hT ka) sz (gx ad (va_A (hwc g ka i r L d) sz)))) (sj_Qi (S := (Nat → Nat → Int32)) D (fun v u => OkI u ∧ (∀ a b, ¬ ((a = 36 ∧ (b = 0 ∨ b = 2 ∨ b = 65 ∨ b = 66)) ∨ a = 416 ∨ a = 417 ∨ a = 418 ∨ a = 419) → u a b = i a b) ∧ ((u 36 2).toInt = 0) ∧ (ftM i u)) (fun u => hwc g ka u r L d) (fun _ => []) (va_A (hwc g ka i r L d) sz)) 0 0 (va_A (hwc g ka i r L d) sz) := by
  refine x_met (Ex := gx ad) (cc := cX12_filter) (maxL := 1) (ret := (some .int)) (by decide) rfl (Nat.le_of_ble_eq_true rfl) ?_
  intro p e s m below meth c A ls hx hb hr hml hts hown hlocks hA hS hH hK hE hl
  have hown : s.vm.findClass RX12 = some m.cls := hown
  have in12 : ∀ w ∈ wsX120, w ∈ wsX12_filter := (fun _ h => (List.mem_cons_of_mem _ (List.mem_append_right _ h)))
  have wd0 := hts (.fieldLink RX12 12 "StoryDeskModel" "text" "[C") (List.mem_cons_of_mem _ (List.mem_append_left _ (List.mem_append_left _ lm0)))
  have wd1 := hts (.fieldLink RX12 7 "StoryDeskModel" "size" "I") (List.mem_cons_of_mem _ (List.mem_append_left _ (List.mem_append_left _ lm1)))
  have wd2 := hts (.fieldLink RX12 1 "StoryDeskModel" "thrown" "I") (List.mem_cons_of_mem _ (List.mem_append_left _ (List.mem_append_left _ lm2)))
  have hl : lv_has ls 1 [(0, .ref (g 36))] := hl
  have hK : va_K D vwCl (hT ka) s := hK
  have hb2 : (0 : Int) ≤ (i 36 2).toInt ∧ (i 36 2).toInt ≤ 480 := hO 36 2
  refine lv_aload_n hx hb dX12_filter_0 rfl (lv_at hl 0 rfl) ?_
  refine x_calli (va_runV (As := []) (rest := []) ⟨hx, hb, hml, hown, hts⟩ (m_busy l D g ka ad i r L d  hO hR s.heap.size ) (cwV 0 hts gX12_filter_X12_busy rfl rfl rfl (by decide +kernel) ⟨(Nat.le_of_ble_eq_true rfl), (Nat.le_of_ble_eq_true rfl)⟩) (x_preV (q := (RX12, TX12, 86)) hH hK (q_obj (by decide) (rfl : kd 36 = 12) (by decide)) rfl gxb (gxw hE hS (x_F hH hS hA))) rfl rfl hl.1 rfl (lv_room (Nat.le_of_ble_eq_true rfl)) dX12_filter_1 ⟨(Nat.le_of_ble_eq_true rfl), (Nat.le_of_ble_eq_true rfl)⟩) hH hS hA rfl rfl (fun r_1 im_3 H locs hw_2 hH hS => ?_)
  have hH : sj_H D A (hwc g ka im_3 r L d) H := hH
  obtain ⟨hO_5, hfr_4, hr_6, he_7⟩ := hw_2
  have hr_6 : (0 : Int) ≤ r_1.toInt ∧ r_1.toInt ≤ 1 := hr_6
  refine lv_if_eq (tgt := 9) hx hb dX12_filter_4 (by decide) (fun _ => ?_) (fun h => absurd (p_eq (rfl : r_1.toInt = _) (show (0 : Int32).toInt = 0 from rfl) (by omega)) h)
  refine lv_aload_n hx hb dX12_filter_9 rfl (lv_at hl 0 rfl) ?_
  refine lv_aload_n hx hb dX12_filter_10 rfl (lv_at hl 0 rfl) ?_
  refine lv_aload_n hx hb dX12_filter_11 rfl (lv_at hl 0 rfl) ?_
  refine h_getr (ci := 12) (C := RX12) (F := TX12) (N := 86) hx hb hts in12 hown hK hH (by decide) (rfl : kd 36 = 12) (by decide) rfl 1 (by decide) wd0 (fun _ h9 => h9) (by decide) rfl (t := 379) (hR 36 1 rfl) (by decide) dX12_filter_12 ?_
  refine lv_iconst (v := 0) hx hb dX12_filter_15 (by decide) ?_
  refine lv_aload_n hx hb dX12_filter_16 rfl (lv_at hl 0 rfl) ?_
  have bx_8 : (0 : Int) ≤ (i 36 2).toInt ∧ (i 36 2).toInt ≤ 480 := hO 36 2
  refine h_geti (ci := 12) (C := RX12) (F := TX12) (N := 86) hx hb hts in12 hown hK hH (by decide) (rfl : kd 36 = 12) (by decide) rfl 2 (by decide) wd1 (fun _ h9 => h9) (by decide) rfl dX12_filter_17 ?_
  refine sj_i (y := (i 36 2)) (hfr_4 36 2 (by omega)) ?_
  refine lv_iconst (v := 0) hx hb dX12_filter_20 (by decide) ?_
  have hl_9 : (0 : Int32).toInt = 0 := rfl
  have hl_10 : (0 : Int32).toInt = 0 := rfl
  refine x_calli (va_runV (As := [.ref (g 379), .int 0, .int (i 36 2), .int 0]) (rest := [.ref (g 36)]) ⟨hx, hb, hml, hown, hts⟩ (m_test_text l D g ka ad im_3 r L d 0 (i 36 2) 0 hO_5 hR H.size (by first | omega | decide) (by first | omega | decide) (by first | omega | decide) (by first | omega | decide) (by first | omega | decide)) (cwV 4 hts gX12_filter_X12_test rfl rfl rfl (by decide +kernel) ⟨(Nat.le_of_ble_eq_true rfl), (Nat.le_of_ble_eq_true rfl)⟩) (x_preV (q := (RX12, TX12, 86)) hH hK (q_obj (by decide) (rfl : kd 36 = 12) (by decide)) rfl gxb (gxw hE hS (x_F hH hS hA))) rfl rfl hl.1 rfl (lv_room (Nat.le_of_ble_eq_true rfl)) dX12_filter_21 ⟨(Nat.le_of_ble_eq_true rfl), (Nat.le_of_ble_eq_true rfl)⟩) hH hS hA rfl rfl (fun r_11 im_13 H locs hw_12 hH hS => ?_)
  have hH : sj_H D A (hwc g ka im_13 r L d) H := hH
  obtain ⟨hO_15, hfr_14, hr_16, hx2_17, hx2_18, hx2_19⟩ := hw_12
  have hr_16 : (-1 : Int) ≤ r_11.toInt ∧ r_11.toInt ≤ 1 := hr_16
  have htk := mTk_v (i := i) (v := (r_11 : Int32).toInt) rfl (hx2_17) (hx2_18) (hx2_19)
  refine lv_if_lt (tgt := 31) hx hb dX12_filter_24 (by decide) (fun c_20 => ?_) (fun c_20 => ?_)
  · skip
    have h_21 := s_lt (rfl : r_11.toInt = _) (show (0 : Int32).toInt = 0 from rfl) c_20
    have hnk := (htk.resolve_left (fun q => by have := q.1; omega)).2
    refine lv_iconst (v := 2) hx hb dX12_filter_31 (by decide) ?_
    have hO_22 := okp hO_15 (n := 36) (k := 0) (v := 2) (show (0 : Int) ≤ (2 : Int32).toInt ∧ (2 : Int32).toInt ≤ 3 from ⟨by decide, by decide⟩)
    refine h_puti (ty := .int) (ci := 12) (C := RX12) (F := TX12) (N := 86) hx hb hts in12 tyX12 tyX12_ok nmX12 hown hK hH hS (by decide) (rfl : kd 36 = 12) (by decide) rfl 0 (by decide) wd2 (fun _ h9 => h9) rfl (by decide +kernel) rfl rfl (by decide) rfl dX12_filter_32 (fun H locs hH hS => ?_)
    refine lv_aload_n hx hb dX12_filter_35 rfl (lv_at hl 0 rfl) ?_
    refine h_geti (ci := 12) (C := RX12) (F := TX12) (N := 86) hx hb hts in12 hown hK hH (by decide) (rfl : kd 36 = 12) (by decide) rfl 0 (by decide) wd2 (fun _ h9 => h9) (by decide) rfl dX12_filter_36 ?_
    refine sj_i (y := 2) (up2_at _ _ _ _) ?_
    refine lv_if_ne (tgt := 48) hx hb dX12_filter_39 (by decide) (fun _ => ?_) (fun h => absurd h (by decide))
    refine lv_aload_n hx hb dX12_filter_48 rfl (lv_at hl 0 rfl) ?_
    refine lv_iconst (v := 0) hx hb dX12_filter_49 (by decide) ?_
    have hO_23 := okp hO_22 (n := 36) (k := 2) (v := 0) (show (0 : Int) ≤ (0 : Int32).toInt ∧ (0 : Int32).toInt ≤ 480 from ⟨by decide, by decide⟩)
    refine h_puti (ty := .int) (ci := 12) (C := RX12) (F := TX12) (N := 86) hx hb hts in12 tyX12 tyX12_ok nmX12 hown hK hH hS (by decide) (rfl : kd 36 = 12) (by decide) rfl 2 (by decide) wd1 (fun _ h9 => h9) rfl (by decide +kernel) rfl rfl (by decide) rfl dX12_filter_50 (fun H locs hH hS => ?_)
    refine lv_aload_n hx hb dX12_filter_53 rfl (lv_at hl 0 rfl) ?_
    refine h_geti (ci := 12) (C := RX12) (F := TX12) (N := 86) hx hb hts in12 hown hK hH (by decide) (rfl : kd 36 = 12) (by decide) rfl 0 (by decide) wd2 (fun _ h9 => h9) (by decide) rfl dX12_filter_54 ?_
    refine sj_i (y := 2) ((up2_k _ _ (by decide)).trans (up2_at _ _ _ _)) ?_
    refine lv_if_le (tgt := 64) hx hb dX12_filter_57 (by decide) (fun h => absurd h (by decide)) (fun _ => ?_)
    refine lv_iconst (v := 0) hx hb dX12_filter_60 (by decide) ?_
    refine lv_goto (tgt := 68) hx hb dX12_filter_61 (by decide) ?_
    have hp_24 : ((up2 (up2 im_13 36 0 2) 36 2 0) 36 2).toInt = (0 : Int32).toInt := congrArg Int32.toInt ((up2_at _ _ _ _))
    have hl_25 : (0 : Int32).toInt = 0 := rfl
    have hV_26 : ((up2 (up2 im_13 36 0 2) 36 2 0) 36 2).toInt = 0 := (by omega)
    have hV_27 : ftM i (up2 (up2 im_13 36 0 2) 36 2 0) := (Or.inl ⟨fun q => hnk q, (funext fun b9 => ((up2_o _ _ (by omega)).trans ((up2_o _ _ (by omega)).trans ((hfr_14 416 b9 (by omega)).trans (hfr_4 416 b9 (by omega)))))), (funext fun b9 => ((up2_o _ _ (by omega)).trans ((up2_o _ _ (by omega)).trans ((hfr_14 417 b9 (by omega)).trans (hfr_4 417 b9 (by omega))))))⟩)
    exact sj_zret hx hb hr hlocks rfl hS (up2 (up2 im_13 36 0 2) 36 2 0) ⟨hO_23, (fun a b ha => ((up2_o _ _ (by omega)).trans ((up2_o _ _ (by omega)).trans ((hfr_14 a b (by omega)).trans (hfr_4 a b (by omega)))))), hV_26, hV_27⟩ hH (sj_Knil hK) (Nat.le_of_ble_eq_true rfl) (Nat.le_of_ble_eq_true rfl) dX12_filter_68
  · skip
    have h_28 := s_nlt (rfl : r_11.toInt = _) (show (0 : Int32).toInt = 0 from rfl) c_20
    have hkt := (htk.resolve_right (fun q => by have := q.1; omega)).2
    have hkt1 := hkt.1
    refine lv_iconst (v := 0) hx hb dX12_filter_27 (by decide) ?_
    refine lv_goto (tgt := 32) hx hb dX12_filter_28 (by decide) ?_
    have hO_29 := okp hO_15 (n := 36) (k := 0) (v := 0) (show (0 : Int) ≤ (0 : Int32).toInt ∧ (0 : Int32).toInt ≤ 3 from ⟨by decide, by decide⟩)
    refine h_puti (ty := .int) (ci := 12) (C := RX12) (F := TX12) (N := 86) hx hb hts in12 tyX12 tyX12_ok nmX12 hown hK hH hS (by decide) (rfl : kd 36 = 12) (by decide) rfl 0 (by decide) wd2 (fun _ h9 => h9) rfl (by decide +kernel) rfl rfl (by decide) rfl dX12_filter_32 (fun H locs hH hS => ?_)
    refine lv_aload_n hx hb dX12_filter_35 rfl (lv_at hl 0 rfl) ?_
    refine h_geti (ci := 12) (C := RX12) (F := TX12) (N := 86) hx hb hts in12 hown hK hH (by decide) (rfl : kd 36 = 12) (by decide) rfl 0 (by decide) wd2 (fun _ h9 => h9) (by decide) rfl dX12_filter_36 ?_
    refine sj_i (y := 0) (up2_at _ _ _ _) ?_
    refine lv_if_ne (tgt := 48) hx hb dX12_filter_39 (by decide) (fun h => absurd (by decide) h) (fun _ => ?_)
    refine lv_aload_n hx hb dX12_filter_42 rfl (lv_at hl 0 rfl) ?_
    refine lv_bipush (v := 8) hx hb dX12_filter_43 (by decide) ?_
    have hl_30 : (8 : Int32).toInt = 8 := rfl
    refine x_callv (va_runV (As := [.int 8]) (rest := []) ⟨hx, hb, hml, hown, hts⟩ (m_keep l D g ka ad (up2 im_13 36 0 0) r L d 8 hO_29 hR H.size (by first | omega | decide) (by first | omega | decide) (by first | omega | decide)) (cwV 1 hts gX12_filter_X12_keep rfl rfl rfl (by decide +kernel) ⟨(Nat.le_of_ble_eq_true rfl), (Nat.le_of_ble_eq_true rfl)⟩) (x_preV (q := (RX12, TX12, 86)) hH hK (q_obj (by decide) (rfl : kd 36 = 12) (by decide)) rfl gxb (gxw hE hS (x_F hH hS hA))) rfl rfl hl.1 rfl (lv_room (Nat.le_of_ble_eq_true rfl)) dX12_filter_45 ⟨(Nat.le_of_ble_eq_true rfl), (Nat.le_of_ble_eq_true rfl)⟩) hH hS hA rfl rfl (fun im_33 H locs hw_32 hH hS => ?_)
    have hH : sj_H D A (hwc g ka im_33 r L d) H := hH
    obtain ⟨hO_35, hfr_34, hx2_36, hx2_37, hx2_38, hx2_39⟩ := hw_32
    refine lv_aload_n hx hb dX12_filter_48 rfl (lv_at hl 0 rfl) ?_
    refine lv_iconst (v := 0) hx hb dX12_filter_49 (by decide) ?_
    have hO_40 := okp hO_35 (n := 36) (k := 2) (v := 0) (show (0 : Int) ≤ (0 : Int32).toInt ∧ (0 : Int32).toInt ≤ 480 from ⟨by decide, by decide⟩)
    refine h_puti (ty := .int) (ci := 12) (C := RX12) (F := TX12) (N := 86) hx hb hts in12 tyX12 tyX12_ok nmX12 hown hK hH hS (by decide) (rfl : kd 36 = 12) (by decide) rfl 2 (by decide) wd1 (fun _ h9 => h9) rfl (by decide +kernel) rfl rfl (by decide) rfl dX12_filter_50 (fun H locs hH hS => ?_)
    refine lv_aload_n hx hb dX12_filter_53 rfl (lv_at hl 0 rfl) ?_
    refine h_geti (ci := 12) (C := RX12) (F := TX12) (N := 86) hx hb hts in12 hown hK hH (by decide) (rfl : kd 36 = 12) (by decide) rfl 0 (by decide) wd2 (fun _ h9 => h9) (by decide) rfl dX12_filter_54 ?_
    refine sj_i (y := 0) ((up2_k _ _ (by decide)).trans ((hfr_34 36 0 (by omega)).trans (up2_at _ _ _ _))) ?_
    refine lv_if_le (tgt := 64) hx hb dX12_filter_57 (by decide) (fun _ => ?_) (fun h => absurd (by decide) h)
    refine lv_aload_n hx hb dX12_filter_64 rfl (lv_at hl 0 rfl) ?_
    refine x_calli (va_runV (As := []) (rest := []) ⟨hx, hb, hml, hown, hts⟩ (m_wanted l D g ka ad (up2 im_33 36 2 0) r L d  hO_40 hR H.size ) (cwV 0 hts gX12_filter_X12_wanted rfl rfl rfl (by decide +kernel) ⟨(Nat.le_of_ble_eq_true rfl), (Nat.le_of_ble_eq_true rfl)⟩) (x_preV (q := (RX12, TX12, 86)) hH hK (q_obj (by decide) (rfl : kd 36 = 12) (by decide)) rfl gxb (gxw hE hS (x_F hH hS hA))) rfl rfl hl.1 rfl (lv_room (Nat.le_of_ble_eq_true rfl)) dX12_filter_65 ⟨(Nat.le_of_ble_eq_true rfl), (Nat.le_of_ble_eq_true rfl)⟩) hH hS hA rfl rfl (fun r_41 im_43 H locs hw_42 hH hS => ?_)
    have hH : sj_H D A (hwc g ka im_43 r L d) H := hH
    obtain ⟨hO_45, hfr_44, hr_46⟩ := hw_42
    have hr_46 : (0 : Int) ≤ r_41.toInt ∧ r_41.toInt ≤ 24 := hr_46
    have hp_47 : (im_43 36 2).toInt = (0 : Int32).toInt := congrArg Int32.toInt (((hfr_44 36 2 (by omega)).trans (up2_at _ _ _ _)))
    have hl_48 : (0 : Int32).toInt = 0 := rfl
    have hV_49 : (im_43 36 2).toInt = 0 := (by omega)
    have ha16 : im_43 416 = im_33 416 := (funext fun b9 => ((hfr_44 416 b9 (by omega)).trans (up2_o _ _ (by omega))))
    have ha17 : im_43 417 = im_33 417 := (funext fun b9 => ((hfr_44 417 b9 (by omega)).trans (up2_o _ _ (by omega))))
    have hkxe : (8 : Int32).toInt = (8 : Int) := rfl
    have hkz : ((up2 im_13 36 0 0) 36 2).toInt = (i 36 2).toInt := congrArg Int32.toInt (show (up2 im_13 36 0 0) 36 2 = i 36 2 from ((up2_o _ _ (by omega)).trans ((hfr_14 36 2 (by omega)).trans (hfr_4 36 2 (by omega)))))
    have hnew : tgLM im_43 (8 : Int).toNat = mTx i := tgLM_new (x := (8 : Int)) (by omega) (by omega) (by
        rw [ha17]
        have h9 := hx2_36
        rw [hkxe, hkz] at h9
        exact h9) (by
        intro k hk
        have h9 := hx2_38 k (by omega)
        rw [hkxe] at h9
        rw [ha16, h9]
        exact congrArg Int32.toInt (show (up2 im_13 36 0 0) 379 k = i 379 k from ((up2_o _ _ (by omega)).trans ((hfr_14 379 k (by omega)).trans (hfr_4 379 k (by omega))))))
    have hold : ∀ h : Nat, h ≠ (8 : Int).toNat → tgLM im_43 h = tgLM i h := tgLM_old (x := (8 : Int)) (by omega) (fun k => (hO 417 k).2) (by
        intro k hk
        have h9 := hx2_37 k (by rw [hkxe]; exact hk)
        rw [ha17, h9]
        exact ((up2_o _ _ (by omega)).trans ((hfr_14 417 k (by omega)).trans (hfr_4 417 k (by omega))))) (by
        intro k hk
        have h9 := hx2_39 k (by rw [hkxe]; exact hk)
        rw [ha16, h9]
        exact ((up2_o _ _ (by omega)).trans ((hfr_14 416 k (by omega)).trans (hfr_4 416 k (by omega)))))
    have hV_50 : ftM i im_43 := (Or.inr ⟨hkt, hnew, hold⟩)
    exact sj_zret hx hb hr hlocks rfl hS im_43 ⟨hO_45, (fun a b ha => ((hfr_44 a b (by omega)).trans ((up2_o _ _ (by omega)).trans ((hfr_34 a b (by omega)).trans ((up2_o _ _ (by omega)).trans ((hfr_14 a b (by omega)).trans (hfr_4 a b (by omega)))))))), hV_49, hV_50⟩ hH (sj_Knil hK) (Nat.le_of_ble_eq_true rfl) (Nat.le_of_ble_eq_true rfl) dX12_filter_68
set_option maxHeartbeats 2000000 in
set_option maxRecDepth 100000 in
theorem m_start1 (l : Launch) (D : va_G) (g : Nat → Nat) (ka : Nat → ClassId) (ad : Nat → Nat) (i : Nat → Nat → Int32) (r : Nat → Nat → Nat) (L : Nat → Nat → Int64) (d : Nat → Nat → UInt64) (x : Int32) (hO : OkI i) (hR : RS r) (sz : Nat) (hb76 : (i 36 76).toInt = 0) (hMI : MI i d) (hev : (i 36 81).toInt ≤ 1900000000) : Met l yX12_start wsX12_start ({ frames := 6, cells := 0, slots := 0, locals := 135 }) (va_Pc [.ref (g 36), .int x] (sj_B D (hwc g ka i r L d) (hT ka) sz (gx ad (va_A (hwc g ka i r L d) sz)))) (sj_Qi (S := (Nat → Nat → Int32)) D (fun v u => OkI u ∧ (∀ a b, ¬ ((a = 36 ∧ (b = 0 ∨ b = 65 ∨ b = 66 ∨ b = 75 ∨ b = 76 ∨ b = 77 ∨ b = 78 ∨ b = 79 ∨ b = 80 ∨ b = 81)) ∨ a = 401 ∨ a = 418 ∨ a = 419 ∨ a = 426) → u a b = i a b) ∧ (MI u d) ∧ (((x.toInt < 1 ∨ 3 < x.toInt) ∧ (u 36 76).toInt = 0) ∨ ((1 ≤ x.toInt ∧ x.toInt ≤ 3) ∧ mrest u = murem i 0 ∧ ((0 < murem i 0 ∧ (u 36 76).toInt = 1) ∨ (murem i 0 ≤ 0 ∧ (u 36 76).toInt = 0)))) ∧ (((u 36 81).toInt ≤ (i 36 81).toInt + 2))) (fun u => hwc g ka u r L d) (fun _ => []) (va_A (hwc g ka i r L d) sz)) 0 0 (va_A (hwc g ka i r L d) sz) := by
  refine x_met (Ex := gx ad) (cc := cX12_start) (maxL := 3) (ret := (some .int)) (by decide) rfl (Nat.le_of_ble_eq_true rfl) ?_
  intro p e s m below meth c A ls hx hb hr hml hts hown hlocks hA hS hH hK hE hl
  have hown : s.vm.findClass RX12 = some m.cls := hown
  have in12 : ∀ w ∈ wsX120, w ∈ wsX12_start := (fun _ h => (List.mem_cons_of_mem _ (List.mem_append_right _ h)))
  have wd0 := hts (.fieldLink RX12 507 "StoryDeskModel" "workers" "I") (List.mem_cons_of_mem _ (List.mem_append_left _ (List.mem_append_left _ lm0)))
  have wd1 := hts (.fieldLink RX12 516 "StoryDeskModel" "turn" "I") (List.mem_cons_of_mem _ (List.mem_append_left _ (List.mem_append_left _ lm1)))
  have wd2 := hts (.fieldLink RX12 504 "StoryDeskModel" "upcoming" "I") (List.mem_cons_of_mem _ (List.mem_append_left _ (List.mem_append_left _ lm2)))
  have wd3 := hts (.fieldLink RX12 510 "StoryDeskModel" "worst" "I") (List.mem_cons_of_mem _ (List.mem_append_left _ (List.mem_append_left _ lm3)))
  have wd4 := hts (.fieldLink RX12 460 "StoryDeskModel" "units" "I") (List.mem_cons_of_mem _ (List.mem_append_left _ (List.mem_append_left _ lm4)))
  have wd5 := hts (.fieldLink RX12 165 "StoryDeskModel" "cases" "I") (List.mem_cons_of_mem _ (List.mem_append_left _ (List.mem_append_left _ lm5)))
  have wd6 := hts (.fieldLink RX12 168 "StoryDeskModel" "running" "Z") (List.mem_cons_of_mem _ (List.mem_append_left _ (List.mem_append_left _ lm7)))
  have wd7 := hts (.fieldLink RX12 207 "StoryDeskModel" "caseStatus" "[I") (List.mem_cons_of_mem _ (List.mem_append_left _ (List.mem_append_left _ lm6)))
  have hl : lv_has ls 3 [(0, .ref (g 36)), (1, .int x)] := hl
  have hK : va_K D vwCl (hT ka) s := hK
  have hg_1 := s_rng x
  have hb33 : (0 : Int) ≤ (i 36 33).toInt ∧ (i 36 33).toInt ≤ 24 := hO 36 33
  have hj := (hMI.resolve_right (fun q => by have := q.1; omega)).2
  refine lv_aload_n hx hb dX12_start_0 rfl (lv_at hl 0 rfl) ?_
  refine x_calli (va_runV (As := []) (rest := []) ⟨hx, hb, hml, hown, hts⟩ (m_busy l D g ka ad i r L d  hO hR s.heap.size ) (cwV 0 hts gX12_start_X12_busy rfl rfl rfl (by decide +kernel) ⟨(Nat.le_of_ble_eq_true rfl), (Nat.le_of_ble_eq_true rfl)⟩) (x_preV (q := (RX12, TX12, 86)) hH hK (q_obj (by decide) (rfl : kd 36 = 12) (by decide)) rfl gxb (gxw hE hS (x_F hH hS hA))) rfl rfl hl.1 rfl (lv_room (Nat.le_of_ble_eq_true rfl)) dX12_start_1 ⟨(Nat.le_of_ble_eq_true rfl), (Nat.le_of_ble_eq_true rfl)⟩) hH hS hA rfl rfl (fun r_2 im_4 H locs hw_3 hH hS => ?_)
  have hH : sj_H D A (hwc g ka im_4 r L d) H := hH
  obtain ⟨hO_6, hfr_5, hr_7, he_8⟩ := hw_3
  have hr_7 : (0 : Int) ≤ r_2.toInt ∧ r_2.toInt ≤ 1 := hr_7
  refine lv_if_eq (tgt := 9) hx hb dX12_start_4 (by decide) (fun _ => ?_) (fun h => absurd (p_eq (rfl : r_2.toInt = _) (show (0 : Int32).toInt = 0 from rfl) (by omega)) h)
  refine lv_aload_n hx hb dX12_start_9 rfl (lv_at hl 0 rfl) ?_
  refine lv_iload_n hx hb dX12_start_10 rfl (lv_at hl 1 rfl) ?_
  refine lv_iconst (v := 1) hx hb dX12_start_11 (by decide) ?_
  refine lv_icmp_lt (tgt := 20) hx hb dX12_start_12 (by decide) (fun c_9 => ?_) (fun c_9 => ?_)
  · skip
    have h_10 := s_lt (rfl : x.toInt = _) (show (1 : Int32).toInt = 1 from rfl) c_9
    refine lv_iconst (v := 2) hx hb dX12_start_20 (by decide) ?_
    refine lv_goto (tgt := 25) hx hb dX12_start_21 (by decide) ?_
    have hl_11 : (2 : Int32).toInt = 2 := rfl
    refine x_calli (va_runV (As := [.int 2]) (rest := []) ⟨hx, hb, hml, hown, hts⟩ (m_throwsNow l D g ka ad im_4 r L d 2 hO_6 hR H.size (by first | omega | decide) (by first | omega | decide)) (cwV 1 hts gX12_start_X12_throwsNow rfl rfl rfl (by decide +kernel) ⟨(Nat.le_of_ble_eq_true rfl), (Nat.le_of_ble_eq_true rfl)⟩) (x_preV (q := (RX12, TX12, 86)) hH hK (q_obj (by decide) (rfl : kd 36 = 12) (by decide)) rfl gxb (gxw hE hS (x_F hH hS hA))) rfl rfl hl.1 rfl (lv_room (Nat.le_of_ble_eq_true rfl)) dX12_start_25 ⟨(Nat.le_of_ble_eq_true rfl), (Nat.le_of_ble_eq_true rfl)⟩) hH hS hA rfl rfl (fun r_12 im_14 H locs hw_13 hH hS => ?_)
    have hH : sj_H D A (hwc g ka im_14 r L d) H := hH
    obtain ⟨hO_16, hfr_15, hr_17, he_18⟩ := hw_13
    have hr_17 : (0 : Int) ≤ r_12.toInt ∧ r_12.toInt ≤ 1 := hr_17
    refine lv_if_eq (tgt := 33) hx hb dX12_start_28 (by decide) (fun c_19 => ?_) (fun c_19 => ?_)
    · skip
      have h_20 := s_eq (rfl : r_12.toInt = _) (show (0 : Int32).toInt = 0 from rfl) c_19
      refine lv_aload_n hx hb dX12_start_33 rfl (lv_at hl 0 rfl) ?_
      refine lv_iload_n hx hb dX12_start_34 rfl (lv_at hl 1 rfl) ?_
      have hO_21 := okp hO_16 (n := 36) (k := 77) (v := x) (show (0 : Int) ≤ (x : Int32).toInt ∧ (x : Int32).toInt ≤ 3 from ⟨by omega, by omega⟩)
      refine h_puti (ty := .int) (ci := 12) (C := RX12) (F := TX12) (N := 86) hx hb hts in12 tyX12 tyX12_ok nmX12 hown hK hH hS (by decide) (rfl : kd 36 = 12) (by decide) rfl 77 (by decide) wd0 (fun _ h9 => h9) rfl (by decide +kernel) rfl rfl (by decide) rfl dX12_start_35 (fun H locs hH hS => ?_)
      refine lv_aload_n hx hb dX12_start_38 rfl (lv_at hl 0 rfl) ?_
      refine lv_iconst (v := 0) hx hb dX12_start_39 (by decide) ?_
      have hO_22 := okp hO_21 (n := 36) (k := 78) (v := 0) (show (0 : Int) ≤ (0 : Int32).toInt ∧ (0 : Int32).toInt ≤ 2 from ⟨by decide, by decide⟩)
      refine h_puti (ty := .int) (ci := 12) (C := RX12) (F := TX12) (N := 86) hx hb hts in12 tyX12 tyX12_ok nmX12 hown hK hH hS (by decide) (rfl : kd 36 = 12) (by decide) rfl 78 (by decide) wd1 (fun _ h9 => h9) rfl (by decide +kernel) rfl rfl (by decide) rfl dX12_start_40 (fun H locs hH hS => ?_)
      refine lv_aload_n hx hb dX12_start_43 rfl (lv_at hl 0 rfl) ?_
      refine lv_iconst (v := 0) hx hb dX12_start_44 (by decide) ?_
      have hO_23 := okp hO_22 (n := 36) (k := 79) (v := 0) (show (0 : Int) ≤ (0 : Int32).toInt ∧ (0 : Int32).toInt ≤ 24 from ⟨by decide, by decide⟩)
      refine h_puti (ty := .int) (ci := 12) (C := RX12) (F := TX12) (N := 86) hx hb hts in12 tyX12 tyX12_ok nmX12 hown hK hH hS (by decide) (rfl : kd 36 = 12) (by decide) rfl 79 (by decide) wd2 (fun _ h9 => h9) rfl (by decide +kernel) rfl rfl (by decide) rfl dX12_start_45 (fun H locs hH hS => ?_)
      refine lv_aload_n hx hb dX12_start_48 rfl (lv_at hl 0 rfl) ?_
      refine lv_iconst (v := 0) hx hb dX12_start_49 (by decide) ?_
      have hO_24 := okp hO_23 (n := 36) (k := 80) (v := 0) (show (0 : Int) ≤ (0 : Int32).toInt ∧ (0 : Int32).toInt ≤ 5 from ⟨by decide, by decide⟩)
      refine h_puti (ty := .int) (ci := 12) (C := RX12) (F := TX12) (N := 86) hx hb hts in12 tyX12 tyX12_ok nmX12 hown hK hH hS (by decide) (rfl : kd 36 = 12) (by decide) rfl 80 (by decide) wd3 (fun _ h9 => h9) rfl (by decide +kernel) rfl rfl (by decide) rfl dX12_start_50 (fun H locs hH hS => ?_)
      refine lv_aload_n hx hb dX12_start_53 rfl (lv_at hl 0 rfl) ?_
      refine lv_iconst (v := 0) hx hb dX12_start_54 (by decide) ?_
      have hO_25 := okp hO_24 (n := 36) (k := 75) (v := 0) (show (-2147483648 : Int) ≤ (0 : Int32).toInt ∧ (0 : Int32).toInt ≤ 2147483647 from s_rng 0)
      refine h_puti (ty := .int) (ci := 12) (C := RX12) (F := TX12) (N := 86) hx hb hts in12 tyX12 tyX12_ok nmX12 hown hK hH hS (by decide) (rfl : kd 36 = 12) (by decide) rfl 75 (by decide) wd4 (fun _ h9 => h9) rfl (by decide +kernel) rfl rfl (by decide) rfl dX12_start_55 (fun H locs hH hS => ?_)
      refine lv_iconst (v := 0) hx hb dX12_start_58 (by decide) ?_
      refine lv_istore_n (lv' := [(2, .int 0), (0, .ref (g 36)), (1, .int x)]) hx hb dX12_start_59 rfl hl (by decide) rfl (fun ls hl => ?_)
      -- loop at 60
      have lp_26 : ∀ (fuel_lp_26 : Nat) (f : Int32) (j1 : Nat → Nat → Int32) (H : Heap) (locs : List Loc) (ls : Array Slot), (24 - f.toInt).toNat < fuel_lp_26 → (0 : Int) ≤ f.toInt ∧ f.toInt ≤ 24 → f.toInt ≤ (i 36 33).toInt → OkI j1 → (∀ a b, ¬ (a = 401) → j1 a b = (up2 (up2 (up2 (up2 (up2 im_14 36 77 x) 36 78 0) 36 79 0) 36 80 0) 36 75 0) a b) → lv_has ls 3 [(2, .int f), (0, .ref (g 36)), (1, .int x)] → sj_H D A (hwc g ka j1 r L d) H → va_S A s.heap H locs → W p l e (headSpec wsX12_start ({ frames := 6, cells := 0, slots := 0, locals := 135 })).room s m ([.ref (g 36), .int x] : List Value).toArray below meth c H locs 0 0 (MQ below (sj_Qi (S := (Nat → Nat → Int32)) D (fun v u => OkI u ∧ (∀ a b, ¬ ((a = 36 ∧ (b = 0 ∨ b = 65 ∨ b = 66 ∨ b = 75 ∨ b = 76 ∨ b = 77 ∨ b = 78 ∨ b = 79 ∨ b = 80 ∨ b = 81)) ∨ a = 401 ∨ a = 418 ∨ a = 419 ∨ a = 426) → u a b = i a b) ∧ (MI u d) ∧ (((x.toInt < 1 ∨ 3 < x.toInt) ∧ (u 36 76).toInt = 0) ∨ ((1 ≤ x.toInt ∧ x.toInt ≤ 3) ∧ mrest u = murem i 0 ∧ ((0 < murem i 0 ∧ (u 36 76).toInt = 1) ∨ (murem i 0 ≤ 0 ∧ (u 36 76).toInt = 0)))) ∧ (((u 36 81).toInt ≤ (i 36 81).toInt + 2))) (fun u => hwc g ka u r L d) (fun _ => []) A) ([.ref (g 36), .int x] : List Value).toArray s 0 0 A) (F0 m 60 ls []) := by
        intro fuel_lp_26
        induction fuel_lp_26 with
        | zero => intros; omega
        | succ fuel_lp_26 ih_lp_26 =>
          intro f j1 H locs ls hm hr_f hi_lp_26_0 hO_j1 hfr_j1 hl hH hS
          refine lv_iload_n hx hb dX12_start_60 rfl (lv_at hl 0 rfl) ?_
          refine lv_aload_n hx hb dX12_start_61 rfl (lv_at hl 1 rfl) ?_
          have bx_27 : (0 : Int) ≤ (i 36 33).toInt ∧ (i 36 33).toInt ≤ 24 := hO 36 33
          refine h_geti (ci := 12) (C := RX12) (F := TX12) (N := 86) hx hb hts in12 hown hK hH (by decide) (rfl : kd 36 = 12) (by decide) rfl 33 (by decide) wd5 (fun _ h9 => h9) (by decide) rfl dX12_start_62 ?_
          refine sj_i (y := (i 36 33)) ((hfr_j1 36 33 (by omega)).trans ((up2_k _ _ (by decide)).trans ((up2_k _ _ (by decide)).trans ((up2_k _ _ (by decide)).trans ((up2_k _ _ (by decide)).trans ((up2_k _ _ (by decide)).trans ((hfr_15 36 33 (by omega)).trans (hfr_5 36 33 (by omega))))))))) ?_
          refine lv_icmp_ge (tgt := 81) hx hb dX12_start_65 (by decide) (fun c_28 => ?_) (fun c_28 => ?_)
          · skip
            have h_29 := s_le (rfl : (i 36 33).toInt = _) (rfl : f.toInt = _) c_28
            refine lv_aload_n hx hb dX12_start_81 rfl (lv_at hl 1 rfl) ?_
            refine lv_iconst (v := 1) hx hb dX12_start_82 (by decide) ?_
            have hO_30 := okp hO_j1 (n := 36) (k := 76) (v := 1) (show (0 : Int) ≤ (1 : Int32).toInt ∧ (1 : Int32).toInt ≤ 1 from ⟨by decide, by decide⟩)
            refine h_puti (ty := .boolean) (ci := 12) (C := RX12) (F := TX12) (N := 86) hx hb hts in12 tyX12 tyX12_ok nmX12 hown hK hH hS (by decide) (rfl : kd 36 = 12) (by decide) rfl 76 (by decide) wd6 (fun _ h9 => h9) rfl (by decide +kernel) (by decide +kernel) (by decide +kernel) (by decide) rfl dX12_start_83 (fun H locs hH hS => ?_)
            refine lv_aload_n hx hb dX12_start_86 rfl (lv_at hl 1 rfl) ?_
            refine lv_iconst (v := 0) hx hb dX12_start_87 (by decide) ?_
            refine lv_aload_n hx hb dX12_start_88 rfl (lv_at hl 1 rfl) ?_
            refine x_calli (va_runV (As := []) (rest := [.int 0, .ref (g 36)]) ⟨hx, hb, hml, hown, hts⟩ (m_wanted l D g ka ad (up2 j1 36 76 1) r L d  hO_30 hR H.size ) (cwV 0 hts gX12_start_X12_wanted rfl rfl rfl (by decide +kernel) ⟨(Nat.le_of_ble_eq_true rfl), (Nat.le_of_ble_eq_true rfl)⟩) (x_preV (q := (RX12, TX12, 86)) hH hK (q_obj (by decide) (rfl : kd 36 = 12) (by decide)) rfl gxb (gxw hE hS (x_F hH hS hA))) rfl rfl hl.1 rfl (lv_room (Nat.le_of_ble_eq_true rfl)) dX12_start_89 ⟨(Nat.le_of_ble_eq_true rfl), (Nat.le_of_ble_eq_true rfl)⟩) hH hS hA rfl rfl (fun r_31 im_33 H locs hw_32 hH hS => ?_)
            have hH : sj_H D A (hwc g ka im_33 r L d) H := hH
            obtain ⟨hO_35, hfr_34, hr_36⟩ := hw_32
            have hr_36 : (0 : Int) ≤ r_31.toInt ∧ r_31.toInt ≤ 24 := hr_36
            refine lv_iload_n hx hb dX12_start_92 rfl (lv_at hl 2 rfl) ?_
            refine lv_iconst (v := 0) hx hb dX12_start_93 (by decide) ?_
            have hl_37 : (0 : Int32).toInt = 0 := rfl
            have hl_38 : (0 : Int32).toInt = 0 := rfl
            have hp_39 : (im_33 36 81).toInt = ((i 36 81) : Int32).toInt := congrArg Int32.toInt (((hfr_34 36 81 (by omega)).trans ((up2_k _ _ (by decide)).trans ((hfr_j1 36 81 (by omega)).trans ((up2_k _ _ (by decide)).trans ((up2_k _ _ (by decide)).trans ((up2_k _ _ (by decide)).trans ((up2_k _ _ (by decide)).trans ((up2_k _ _ (by decide)).trans ((hfr_15 36 81 (by omega)).trans (hfr_5 36 81 (by omega))))))))))))
            have hp_40 : (im_33 36 81).toInt = ((i 36 81) : Int32).toInt := congrArg Int32.toInt (((hfr_34 36 81 (by omega)).trans ((up2_k _ _ (by decide)).trans ((hfr_j1 36 81 (by omega)).trans ((up2_k _ _ (by decide)).trans ((up2_k _ _ (by decide)).trans ((up2_k _ _ (by decide)).trans ((up2_k _ _ (by decide)).trans ((up2_k _ _ (by decide)).trans ((hfr_15 36 81 (by omega)).trans (hfr_5 36 81 (by omega))))))))))))
            refine x_callv (va_runV (As := [.int 0, .int r_31, .int x, .int 0]) (rest := []) ⟨hx, hb, hml, hown, hts⟩ (m_tell l D g ka ad im_33 r L d 0 r_31 x 0 hO_35 hR H.size (by omega)) (cwV 4 hts gX12_start_X12_tell rfl rfl rfl (by decide +kernel) ⟨(Nat.le_of_ble_eq_true rfl), (Nat.le_of_ble_eq_true rfl)⟩) (x_preV (q := (RX12, TX12, 86)) hH hK (q_obj (by decide) (rfl : kd 36 = 12) (by decide)) rfl gxb (gxw hE hS (x_F hH hS hA))) rfl rfl hl.1 rfl (lv_room (Nat.le_of_ble_eq_true rfl)) dX12_start_94 ⟨(Nat.le_of_ble_eq_true rfl), (Nat.le_of_ble_eq_true rfl)⟩) hH hS hA rfl rfl (fun im_43 H locs hw_42 hH hS => ?_)
            have hH : sj_H D A (hwc g ka im_43 r L d) H := hH
            obtain ⟨hO_45, hfr_44, he_46⟩ := hw_42
            refine lv_aload_n hx hb dX12_start_97 rfl (lv_at hl 1 rfl) ?_
            refine x_calli (va_runV (As := []) (rest := []) ⟨hx, hb, hml, hown, hts⟩ (m_wanted l D g ka ad im_43 r L d  hO_45 hR H.size ) (cwV 0 hts gX12_start_X12_wanted rfl rfl rfl (by decide +kernel) ⟨(Nat.le_of_ble_eq_true rfl), (Nat.le_of_ble_eq_true rfl)⟩) (x_preV (q := (RX12, TX12, 86)) hH hK (q_obj (by decide) (rfl : kd 36 = 12) (by decide)) rfl gxb (gxw hE hS (x_F hH hS hA))) rfl rfl hl.1 rfl (lv_room (Nat.le_of_ble_eq_true rfl)) dX12_start_98 ⟨(Nat.le_of_ble_eq_true rfl), (Nat.le_of_ble_eq_true rfl)⟩) hH hS hA rfl rfl (fun r_47 im_49 H locs hw_48 hH hS => ?_)
            have hH : sj_H D A (hwc g ka im_49 r L d) H := hH
            obtain ⟨hO_51, hfr_50, hr_52⟩ := hw_48
            have hr_52 : (0 : Int) ≤ r_47.toInt ∧ r_47.toInt ≤ 24 := hr_52
            refine lv_istore_n (lv' := [(2, .int r_47), (0, .ref (g 36)), (1, .int x)]) hx hb dX12_start_101 rfl hl (by decide) rfl (fun ls hl => ?_)
            refine lv_aload_n hx hb dX12_start_102 rfl (lv_at hl 1 rfl) ?_
            have hp_53 : (im_49 36 79).toInt = (0 : Int32).toInt := congrArg Int32.toInt (((hfr_50 36 79 (by omega)).trans ((hfr_44 36 79 (by omega)).trans ((hfr_34 36 79 (by omega)).trans ((up2_k _ _ (by decide)).trans ((hfr_j1 36 79 (by omega)).trans ((up2_k _ _ (by decide)).trans ((up2_k _ _ (by decide)).trans (up2_at _ _ _ _)))))))))
            have hl_54 : (0 : Int32).toInt = 0 := rfl
            have hp_55 : (im_49 36 33).toInt = ((i 36 33) : Int32).toInt := congrArg Int32.toInt (((hfr_50 36 33 (by omega)).trans ((hfr_44 36 33 (by omega)).trans ((hfr_34 36 33 (by omega)).trans ((up2_k _ _ (by decide)).trans ((hfr_j1 36 33 (by omega)).trans ((up2_k _ _ (by decide)).trans ((up2_k _ _ (by decide)).trans ((up2_k _ _ (by decide)).trans ((up2_k _ _ (by decide)).trans ((up2_k _ _ (by decide)).trans ((hfr_15 36 33 (by omega)).trans (hfr_5 36 33 (by omega))))))))))))))
            refine x_callv (va_runV (As := []) (rest := []) ⟨hx, hb, hml, hown, hts⟩ (m_seek l D g ka ad im_49 r L d  hO_51 hR H.size (by omega)) (cwV 0 hts gX12_start_X12_seek rfl rfl rfl (by decide +kernel) ⟨(Nat.le_of_ble_eq_true rfl), (Nat.le_of_ble_eq_true rfl)⟩) (x_preV (q := (RX12, TX12, 86)) hH hK (q_obj (by decide) (rfl : kd 36 = 12) (by decide)) rfl gxb (gxw hE hS (x_F hH hS hA))) rfl rfl hl.1 rfl (lv_room (Nat.le_of_ble_eq_true rfl)) dX12_start_103 ⟨(Nat.le_of_ble_eq_true rfl), (Nat.le_of_ble_eq_true rfl)⟩) hH hS hA rfl rfl (fun im_58 H locs hw_57 hH hS => ?_)
            have hH : sj_H D A (hwc g ka im_58 r L d) H := hH
            obtain ⟨hO_60, hfr_59, hx2_61, hx2_62, hx2_63⟩ := hw_57
            have hq79 : (im_49 36 79).toInt = (0 : Int32).toInt := congrArg Int32.toInt (((hfr_50 36 79 (by omega)).trans ((hfr_44 36 79 (by omega)).trans ((hfr_34 36 79 (by omega)).trans ((up2_k _ _ (by decide)).trans ((hfr_j1 36 79 (by omega)).trans ((up2_k _ _ (by decide)).trans ((up2_k _ _ (by decide)).trans (up2_at _ _ _ _)))))))))
            have hl0 : (0 : Int32).toInt = 0 := rfl
            have hp_64 : (im_58 36 77).toInt = (x : Int32).toInt := congrArg Int32.toInt (((hfr_59 36 77 (by omega)).trans ((hfr_50 36 77 (by omega)).trans ((hfr_44 36 77 (by omega)).trans ((hfr_34 36 77 (by omega)).trans ((up2_k _ _ (by decide)).trans ((hfr_j1 36 77 (by omega)).trans ((up2_k _ _ (by decide)).trans ((up2_k _ _ (by decide)).trans ((up2_k _ _ (by decide)).trans ((up2_k _ _ (by decide)).trans (up2_at _ _ _ _))))))))))))
            have hp_65 : (im_58 36 76).toInt = (1 : Int32).toInt := congrArg Int32.toInt (((hfr_59 36 76 (by omega)).trans ((hfr_50 36 76 (by omega)).trans ((hfr_44 36 76 (by omega)).trans ((hfr_34 36 76 (by omega)).trans (up2_at _ _ _ _))))))
            have hl_66 : (1 : Int32).toInt = 1 := rfl
            have hl1 : (1 : Int32).toInt = 1 := rfl
            obtain ⟨hMUs, hres⟩ := mst_run (i := i) (b := im_49) (s := im_58) (d := d) hO_60 hj (mxG_of (i := im_49) (u := im_58) ⟨(hfr_59 36 17 (by omega)), fun a h1 h2 => funext fun b9 => (hfr_59 a b9 (by omega))⟩ (hfr_59 36 33 (by omega)) (hfr_59 36 67 (by omega)) (funext fun b9 => (hfr_59 400 b9 (by omega))) (funext fun b9 => (hfr_59 420 b9 (by omega))) (funext fun b9 => (hfr_59 416 b9 (by omega))) (funext fun b9 => (hfr_59 417 b9 (by omega)))) (mxG_of (i := i) (u := im_49) ⟨((hfr_50 36 17 (by omega)).trans ((hfr_44 36 17 (by omega)).trans ((hfr_34 36 17 (by omega)).trans ((up2_o _ _ (by omega)).trans ((hfr_j1 36 17 (by omega)).trans ((up2_o _ _ (by omega)).trans ((up2_o _ _ (by omega)).trans ((up2_o _ _ (by omega)).trans ((up2_o _ _ (by omega)).trans ((up2_o _ _ (by omega)).trans ((hfr_15 36 17 (by omega)).trans (hfr_5 36 17 (by omega))))))))))))), fun a h1 h2 => funext fun b9 => ((hfr_50 a b9 (by omega)).trans ((hfr_44 a b9 (by omega)).trans ((hfr_34 a b9 (by omega)).trans ((up2_o _ _ (by omega)).trans ((hfr_j1 a b9 (by omega)).trans ((up2_o _ _ (by omega)).trans ((up2_o _ _ (by omega)).trans ((up2_o _ _ (by omega)).trans ((up2_o _ _ (by omega)).trans ((up2_o _ _ (by omega)).trans ((hfr_15 a b9 (by omega)).trans (hfr_5 a b9 (by omega)))))))))))))⟩ ((hfr_50 36 33 (by omega)).trans ((hfr_44 36 33 (by omega)).trans ((hfr_34 36 33 (by omega)).trans ((up2_o _ _ (by omega)).trans ((hfr_j1 36 33 (by omega)).trans ((up2_o _ _ (by omega)).trans ((up2_o _ _ (by omega)).trans ((up2_o _ _ (by omega)).trans ((up2_o _ _ (by omega)).trans ((up2_o _ _ (by omega)).trans ((hfr_15 36 33 (by omega)).trans (hfr_5 36 33 (by omega))))))))))))) ((hfr_50 36 67 (by omega)).trans ((hfr_44 36 67 (by omega)).trans ((hfr_34 36 67 (by omega)).trans ((up2_o _ _ (by omega)).trans ((hfr_j1 36 67 (by omega)).trans ((up2_o _ _ (by omega)).trans ((up2_o _ _ (by omega)).trans ((up2_o _ _ (by omega)).trans ((up2_o _ _ (by omega)).trans ((up2_o _ _ (by omega)).trans ((hfr_15 36 67 (by omega)).trans (hfr_5 36 67 (by omega))))))))))))) (funext fun b9 => ((hfr_50 400 b9 (by omega)).trans ((hfr_44 400 b9 (by omega)).trans ((hfr_34 400 b9 (by omega)).trans ((up2_o _ _ (by omega)).trans ((hfr_j1 400 b9 (by omega)).trans ((up2_o _ _ (by omega)).trans ((up2_o _ _ (by omega)).trans ((up2_o _ _ (by omega)).trans ((up2_o _ _ (by omega)).trans ((up2_o _ _ (by omega)).trans ((hfr_15 400 b9 (by omega)).trans (hfr_5 400 b9 (by omega)))))))))))))) (funext fun b9 => ((hfr_50 420 b9 (by omega)).trans ((hfr_44 420 b9 (by omega)).trans ((hfr_34 420 b9 (by omega)).trans ((up2_o _ _ (by omega)).trans ((hfr_j1 420 b9 (by omega)).trans ((up2_o _ _ (by omega)).trans ((up2_o _ _ (by omega)).trans ((up2_o _ _ (by omega)).trans ((up2_o _ _ (by omega)).trans ((up2_o _ _ (by omega)).trans ((hfr_15 420 b9 (by omega)).trans (hfr_5 420 b9 (by omega)))))))))))))) (funext fun b9 => ((hfr_50 416 b9 (by omega)).trans ((hfr_44 416 b9 (by omega)).trans ((hfr_34 416 b9 (by omega)).trans ((up2_o _ _ (by omega)).trans ((hfr_j1 416 b9 (by omega)).trans ((up2_o _ _ (by omega)).trans ((up2_o _ _ (by omega)).trans ((up2_o _ _ (by omega)).trans ((up2_o _ _ (by omega)).trans ((up2_o _ _ (by omega)).trans ((hfr_15 416 b9 (by omega)).trans (hfr_5 416 b9 (by omega)))))))))))))) (funext fun b9 => ((hfr_50 417 b9 (by omega)).trans ((hfr_44 417 b9 (by omega)).trans ((hfr_34 417 b9 (by omega)).trans ((up2_o _ _ (by omega)).trans ((hfr_j1 417 b9 (by omega)).trans ((up2_o _ _ (by omega)).trans ((up2_o _ _ (by omega)).trans ((up2_o _ _ (by omega)).trans ((up2_o _ _ (by omega)).trans ((up2_o _ _ (by omega)).trans ((hfr_15 417 b9 (by omega)).trans (hfr_5 417 b9 (by omega))))))))))))))) (by omega) (by omega) (funext fun b9 => ((hfr_59 427 b9 (by omega)).trans ((hfr_50 427 b9 (by omega)).trans ((hfr_44 427 b9 (by omega)).trans ((hfr_34 427 b9 (by omega)).trans ((up2_o _ _ (by omega)).trans ((hfr_j1 427 b9 (by omega)).trans ((up2_o _ _ (by omega)).trans ((up2_o _ _ (by omega)).trans ((up2_o _ _ (by omega)).trans ((up2_o _ _ (by omega)).trans ((up2_o _ _ (by omega)).trans ((hfr_15 427 b9 (by omega)).trans (hfr_5 427 b9 (by omega))))))))))))))) hx2_61 hx2_62 hx2_63
            refine lv_aload_n hx hb dX12_start_106 rfl (lv_at hl 1 rfl) ?_
            have hp_67 : (im_58 36 81).toInt = ((im_43 36 81) : Int32).toInt := congrArg Int32.toInt (((hfr_59 36 81 (by omega)).trans (hfr_50 36 81 (by omega))))
            refine x_callv (va_runV (As := []) (rest := []) ⟨hx, hb, hml, hown, hts⟩ (m_settle l D g ka ad im_58 r L d  hO_60 hR H.size (by first | omega | decide)) (cwV 0 hts gX12_start_X12_settle rfl rfl rfl (by decide +kernel) ⟨(Nat.le_of_ble_eq_true rfl), (Nat.le_of_ble_eq_true rfl)⟩) (x_preV (q := (RX12, TX12, 86)) hH hK (q_obj (by decide) (rfl : kd 36 = 12) (by decide)) rfl gxb (gxw hE hS (x_F hH hS hA))) rfl rfl hl.1 rfl (lv_room (Nat.le_of_ble_eq_true rfl)) dX12_start_107 ⟨(Nat.le_of_ble_eq_true rfl), (Nat.le_of_ble_eq_true rfl)⟩) hH hS hA rfl rfl (fun im_70 H locs hw_69 hH hS => ?_)
            have hH : sj_H D A (hwc g ka im_70 r L d) H := hH
            obtain ⟨hO_72, hfr_71, hx2_73⟩ := hw_69
            have hp_74 : (im_70 36 76).toInt = ((im_70 36 76) : Int32).toInt := rfl
            have hp_75 : (im_70 36 77).toInt = (x : Int32).toInt := congrArg Int32.toInt (((hfr_71 36 77 (by omega)).trans ((hfr_59 36 77 (by omega)).trans ((hfr_50 36 77 (by omega)).trans ((hfr_44 36 77 (by omega)).trans ((hfr_34 36 77 (by omega)).trans ((up2_k _ _ (by decide)).trans ((hfr_j1 36 77 (by omega)).trans ((up2_k _ _ (by decide)).trans ((up2_k _ _ (by decide)).trans ((up2_k _ _ (by decide)).trans ((up2_k _ _ (by decide)).trans (up2_at _ _ _ _)))))))))))))
            have hp_76 : (im_70 36 78).toInt = (0 : Int32).toInt := congrArg Int32.toInt (((hfr_71 36 78 (by omega)).trans ((hfr_59 36 78 (by omega)).trans ((hfr_50 36 78 (by omega)).trans ((hfr_44 36 78 (by omega)).trans ((hfr_34 36 78 (by omega)).trans ((up2_k _ _ (by decide)).trans ((hfr_j1 36 78 (by omega)).trans ((up2_k _ _ (by decide)).trans ((up2_k _ _ (by decide)).trans ((up2_k _ _ (by decide)).trans (up2_at _ _ _ _))))))))))))
            have hl_77 : (0 : Int32).toInt = 0 := rfl
            obtain ⟨hMI7, hre7, hk7, hp7⟩ := MI_set (i := im_58) (d := d) hO_60 rfl (mxE_of (i := im_58) (u := im_70) ⟨(hfr_71 36 17 (by omega)), fun a h1 h2 => funext fun b9 => (hfr_71 a b9 (by omega))⟩ (hfr_71 36 33 (by omega)) (hfr_71 36 67 (by omega)) (hfr_71 36 77 (by omega)) (funext fun b9 => (hfr_71 400 b9 (by omega))) (funext fun b9 => (hfr_71 420 b9 (by omega))) (funext fun b9 => (hfr_71 416 b9 (by omega))) (funext fun b9 => (hfr_71 417 b9 (by omega)))) (hfr_71 36 79 (by omega)) (funext fun b9 => (hfr_71 427 b9 (by omega))) (funext fun b9 => (hfr_71 428 b9 (by omega))) (funext fun b9 => (hfr_71 429 b9 (by omega))) hMUs (by omega) (by omega) hx2_73
            refine lv_iload_n hx hb dX12_start_110 rfl (lv_at hl 0 rfl) ?_
            have hV_78 : MI im_70 d := hMI7
            have hp_79 : (im_70 36 76).toInt = ((im_70 36 76) : Int32).toInt := rfl
            have hV_80 : ((x.toInt < 1 ∨ 3 < x.toInt) ∧ (im_70 36 76).toInt = 0) ∨ ((1 ≤ x.toInt ∧ x.toInt ≤ 3) ∧ mrest im_70 = murem i 0 ∧ ((0 < murem i 0 ∧ (im_70 36 76).toInt = 1) ∨ (murem i 0 ≤ 0 ∧ (im_70 36 76).toInt = 0))) := (Or.inr ⟨⟨by omega, by omega⟩, by omega, by rcases hk7 with ⟨h1, h2⟩ | ⟨h1, h2⟩; exact Or.inl ⟨by omega, h2⟩; exact Or.inr ⟨by omega, h2⟩⟩)
            have hp_81 : (im_70 36 81).toInt = ((im_70 36 81) : Int32).toInt := rfl
            have hV_82 : ((im_70 36 81).toInt ≤ (i 36 81).toInt + 2) := (by omega)
            exact sj_zret hx hb hr hlocks rfl hS im_70 ⟨hO_72, (fun a b ha => ((hfr_71 a b (by omega)).trans ((hfr_59 a b (by omega)).trans ((hfr_50 a b (by omega)).trans ((hfr_44 a b (by omega)).trans ((hfr_34 a b (by omega)).trans ((up2_o _ _ (by omega)).trans ((hfr_j1 a b (by omega)).trans ((up2_o _ _ (by omega)).trans ((up2_o _ _ (by omega)).trans ((up2_o _ _ (by omega)).trans ((up2_o _ _ (by omega)).trans ((up2_o _ _ (by omega)).trans ((hfr_15 a b (by omega)).trans (hfr_5 a b (by omega)))))))))))))))), hV_78, hV_80, hV_82⟩ hH (sj_Knil hK) (Nat.le_of_ble_eq_true rfl) (Nat.le_of_ble_eq_true rfl) dX12_start_111
          · skip
            have h_83 := s_nle (rfl : (i 36 33).toInt = _) (rfl : f.toInt = _) c_28
            refine lv_aload_n hx hb dX12_start_68 rfl (lv_at hl 1 rfl) ?_
            refine h_getr (ci := 12) (C := RX12) (F := TX12) (N := 86) hx hb hts in12 hown hK hH (by decide) (rfl : kd 36 = 12) (by decide) rfl 38 (by decide) wd7 (fun _ h9 => h9) (by decide) rfl (t := 401) (hR 36 38 rfl) (by decide) dX12_start_69 ?_
            refine lv_iload_n hx hb dX12_start_72 rfl (lv_at hl 0 rfl) ?_
            refine lv_iconst (v := (-1)) hx hb dX12_start_73 (by decide) ?_
            have hO_84 := okp hO_j1 (n := 401) (k := (f.toInt).toNat) (v := (-1)) (show (-1 : Int) ≤ ((-1) : Int32).toInt ∧ ((-1) : Int32).toInt ≤ 5 from ⟨by decide, by decide⟩)
            refine h_iast hx hb hK hH hS (by decide) (rfl : kd 401 = 13) (s_vin (N := 24) (rfl : f.toInt = _) (rfl : ln 401 = 24) (by omega) (by omega)) dX12_start_74 (fun H locs hH hS => ?_)
            rw [s_cl (show f.toInt = f.toInt by omega)] at hH
            obtain ⟨z_85, ez_85, hz_85⟩ := s_add (rfl : f.toInt = _) (show (1 : Int32).toInt = 1 from rfl) (by omega) (by omega)
            refine lv_iinc (v := z_85) (lv' := [(2, .int z_85), (0, .ref (g 36)), (1, .int x)]) hx hb dX12_start_75 hl (k := 0) rfl ez_85 (by decide) rfl (fun ls hl => ?_)
            refine lv_goto (tgt := 60) hx hb dX12_start_78 (by decide) ?_
            exact ih_lp_26 z_85 _ _ _ ls (by omega) (by omega) (by omega) hO_84 (fun a b ha => ((up2_o _ _ (by omega)).trans (hfr_j1 a b (by omega)))) (lv_sub hl [0, 1, 2] rfl) hH hS
      have hl_86 : (0 : Int32).toInt = 0 := rfl
      exact lp_26 _ 0 _ _ _ ls (Nat.lt_succ_self _) (by omega) (by omega) hO_25 (fun a b ha => rfl) (lv_sub hl [0, 1, 2] rfl) hH hS
    · skip
      have h_87 := s_ne (rfl : r_12.toInt = _) (show (0 : Int32).toInt = 0 from rfl) c_19
      refine lv_iconst (v := 0) hx hb dX12_start_31 (by decide) ?_
      have hV_88 : MI im_14 d := (MI_off (i := i) hMI hb76 ((hfr_15 36 76 (by omega)).trans (hfr_5 36 76 (by omega))) (funext fun b9 => ((hfr_15 427 b9 (by omega)).trans (hfr_5 427 b9 (by omega)))))
      have hp_89 : (im_14 36 76).toInt = ((i 36 76) : Int32).toInt := congrArg Int32.toInt (((hfr_15 36 76 (by omega)).trans (hfr_5 36 76 (by omega))))
      have hV_90 : ((x.toInt < 1 ∨ 3 < x.toInt) ∧ (im_14 36 76).toInt = 0) ∨ ((1 ≤ x.toInt ∧ x.toInt ≤ 3) ∧ mrest im_14 = murem i 0 ∧ ((0 < murem i 0 ∧ (im_14 36 76).toInt = 1) ∨ (murem i 0 ≤ 0 ∧ (im_14 36 76).toInt = 0))) := (Or.inl ⟨by omega, by omega⟩)
      have hp_91 : (im_14 36 81).toInt = ((i 36 81) : Int32).toInt := congrArg Int32.toInt (((hfr_15 36 81 (by omega)).trans (hfr_5 36 81 (by omega))))
      have hV_92 : ((im_14 36 81).toInt ≤ (i 36 81).toInt + 2) := (by omega)
      exact sj_zret hx hb hr hlocks rfl hS im_14 ⟨hO_16, (fun a b ha => ((hfr_15 a b (by omega)).trans (hfr_5 a b (by omega)))), hV_88, hV_90, hV_92⟩ hH (sj_Knil hK) (Nat.le_of_ble_eq_true rfl) (Nat.le_of_ble_eq_true rfl) dX12_start_32
  · skip
    have h_93 := s_nlt (rfl : x.toInt = _) (show (1 : Int32).toInt = 1 from rfl) c_9
    refine lv_iload_n hx hb dX12_start_15 rfl (lv_at hl 1 rfl) ?_
    refine lv_iconst (v := 3) hx hb dX12_start_16 (by decide) ?_
    refine lv_icmp_le (tgt := 24) hx hb dX12_start_17 (by decide) (fun c_94 => ?_) (fun c_94 => ?_)
    · skip
      have h_95 := s_le (rfl : x.toInt = _) (show (3 : Int32).toInt = 3 from rfl) c_94
      refine lv_iconst (v := 0) hx hb dX12_start_24 (by decide) ?_
      have hl_96 : (0 : Int32).toInt = 0 := rfl
      refine x_calli (va_runV (As := [.int 0]) (rest := []) ⟨hx, hb, hml, hown, hts⟩ (m_throwsNow l D g ka ad im_4 r L d 0 hO_6 hR H.size (by first | omega | decide) (by first | omega | decide)) (cwV 1 hts gX12_start_X12_throwsNow rfl rfl rfl (by decide +kernel) ⟨(Nat.le_of_ble_eq_true rfl), (Nat.le_of_ble_eq_true rfl)⟩) (x_preV (q := (RX12, TX12, 86)) hH hK (q_obj (by decide) (rfl : kd 36 = 12) (by decide)) rfl gxb (gxw hE hS (x_F hH hS hA))) rfl rfl hl.1 rfl (lv_room (Nat.le_of_ble_eq_true rfl)) dX12_start_25 ⟨(Nat.le_of_ble_eq_true rfl), (Nat.le_of_ble_eq_true rfl)⟩) hH hS hA rfl rfl (fun r_97 im_99 H locs hw_98 hH hS => ?_)
      have hH : sj_H D A (hwc g ka im_99 r L d) H := hH
      obtain ⟨hO_101, hfr_100, hr_102, he_103⟩ := hw_98
      have hr_102 : (0 : Int) ≤ r_97.toInt ∧ r_97.toInt ≤ 1 := hr_102
      refine lv_if_eq (tgt := 33) hx hb dX12_start_28 (by decide) (fun c_104 => ?_) (fun c_104 => ?_)
      · skip
        have h_105 := s_eq (rfl : r_97.toInt = _) (show (0 : Int32).toInt = 0 from rfl) c_104
        refine lv_aload_n hx hb dX12_start_33 rfl (lv_at hl 0 rfl) ?_
        refine lv_iload_n hx hb dX12_start_34 rfl (lv_at hl 1 rfl) ?_
        have hO_106 := okp hO_101 (n := 36) (k := 77) (v := x) (show (0 : Int) ≤ (x : Int32).toInt ∧ (x : Int32).toInt ≤ 3 from ⟨by omega, by omega⟩)
        refine h_puti (ty := .int) (ci := 12) (C := RX12) (F := TX12) (N := 86) hx hb hts in12 tyX12 tyX12_ok nmX12 hown hK hH hS (by decide) (rfl : kd 36 = 12) (by decide) rfl 77 (by decide) wd0 (fun _ h9 => h9) rfl (by decide +kernel) rfl rfl (by decide) rfl dX12_start_35 (fun H locs hH hS => ?_)
        refine lv_aload_n hx hb dX12_start_38 rfl (lv_at hl 0 rfl) ?_
        refine lv_iconst (v := 0) hx hb dX12_start_39 (by decide) ?_
        have hO_107 := okp hO_106 (n := 36) (k := 78) (v := 0) (show (0 : Int) ≤ (0 : Int32).toInt ∧ (0 : Int32).toInt ≤ 2 from ⟨by decide, by decide⟩)
        refine h_puti (ty := .int) (ci := 12) (C := RX12) (F := TX12) (N := 86) hx hb hts in12 tyX12 tyX12_ok nmX12 hown hK hH hS (by decide) (rfl : kd 36 = 12) (by decide) rfl 78 (by decide) wd1 (fun _ h9 => h9) rfl (by decide +kernel) rfl rfl (by decide) rfl dX12_start_40 (fun H locs hH hS => ?_)
        refine lv_aload_n hx hb dX12_start_43 rfl (lv_at hl 0 rfl) ?_
        refine lv_iconst (v := 0) hx hb dX12_start_44 (by decide) ?_
        have hO_108 := okp hO_107 (n := 36) (k := 79) (v := 0) (show (0 : Int) ≤ (0 : Int32).toInt ∧ (0 : Int32).toInt ≤ 24 from ⟨by decide, by decide⟩)
        refine h_puti (ty := .int) (ci := 12) (C := RX12) (F := TX12) (N := 86) hx hb hts in12 tyX12 tyX12_ok nmX12 hown hK hH hS (by decide) (rfl : kd 36 = 12) (by decide) rfl 79 (by decide) wd2 (fun _ h9 => h9) rfl (by decide +kernel) rfl rfl (by decide) rfl dX12_start_45 (fun H locs hH hS => ?_)
        refine lv_aload_n hx hb dX12_start_48 rfl (lv_at hl 0 rfl) ?_
        refine lv_iconst (v := 0) hx hb dX12_start_49 (by decide) ?_
        have hO_109 := okp hO_108 (n := 36) (k := 80) (v := 0) (show (0 : Int) ≤ (0 : Int32).toInt ∧ (0 : Int32).toInt ≤ 5 from ⟨by decide, by decide⟩)
        refine h_puti (ty := .int) (ci := 12) (C := RX12) (F := TX12) (N := 86) hx hb hts in12 tyX12 tyX12_ok nmX12 hown hK hH hS (by decide) (rfl : kd 36 = 12) (by decide) rfl 80 (by decide) wd3 (fun _ h9 => h9) rfl (by decide +kernel) rfl rfl (by decide) rfl dX12_start_50 (fun H locs hH hS => ?_)
        refine lv_aload_n hx hb dX12_start_53 rfl (lv_at hl 0 rfl) ?_
        refine lv_iconst (v := 0) hx hb dX12_start_54 (by decide) ?_
        have hO_110 := okp hO_109 (n := 36) (k := 75) (v := 0) (show (-2147483648 : Int) ≤ (0 : Int32).toInt ∧ (0 : Int32).toInt ≤ 2147483647 from s_rng 0)
        refine h_puti (ty := .int) (ci := 12) (C := RX12) (F := TX12) (N := 86) hx hb hts in12 tyX12 tyX12_ok nmX12 hown hK hH hS (by decide) (rfl : kd 36 = 12) (by decide) rfl 75 (by decide) wd4 (fun _ h9 => h9) rfl (by decide +kernel) rfl rfl (by decide) rfl dX12_start_55 (fun H locs hH hS => ?_)
        refine lv_iconst (v := 0) hx hb dX12_start_58 (by decide) ?_
        refine lv_istore_n (lv' := [(2, .int 0), (0, .ref (g 36)), (1, .int x)]) hx hb dX12_start_59 rfl hl (by decide) rfl (fun ls hl => ?_)
        -- loop at 60
        have lp_111 : ∀ (fuel_lp_111 : Nat) (f : Int32) (j1 : Nat → Nat → Int32) (H : Heap) (locs : List Loc) (ls : Array Slot), (24 - f.toInt).toNat < fuel_lp_111 → (0 : Int) ≤ f.toInt ∧ f.toInt ≤ 24 → f.toInt ≤ (i 36 33).toInt → OkI j1 → (∀ a b, ¬ (a = 401) → j1 a b = (up2 (up2 (up2 (up2 (up2 im_99 36 77 x) 36 78 0) 36 79 0) 36 80 0) 36 75 0) a b) → lv_has ls 3 [(2, .int f), (0, .ref (g 36)), (1, .int x)] → sj_H D A (hwc g ka j1 r L d) H → va_S A s.heap H locs → W p l e (headSpec wsX12_start ({ frames := 6, cells := 0, slots := 0, locals := 135 })).room s m ([.ref (g 36), .int x] : List Value).toArray below meth c H locs 0 0 (MQ below (sj_Qi (S := (Nat → Nat → Int32)) D (fun v u => OkI u ∧ (∀ a b, ¬ ((a = 36 ∧ (b = 0 ∨ b = 65 ∨ b = 66 ∨ b = 75 ∨ b = 76 ∨ b = 77 ∨ b = 78 ∨ b = 79 ∨ b = 80 ∨ b = 81)) ∨ a = 401 ∨ a = 418 ∨ a = 419 ∨ a = 426) → u a b = i a b) ∧ (MI u d) ∧ (((x.toInt < 1 ∨ 3 < x.toInt) ∧ (u 36 76).toInt = 0) ∨ ((1 ≤ x.toInt ∧ x.toInt ≤ 3) ∧ mrest u = murem i 0 ∧ ((0 < murem i 0 ∧ (u 36 76).toInt = 1) ∨ (murem i 0 ≤ 0 ∧ (u 36 76).toInt = 0)))) ∧ (((u 36 81).toInt ≤ (i 36 81).toInt + 2))) (fun u => hwc g ka u r L d) (fun _ => []) A) ([.ref (g 36), .int x] : List Value).toArray s 0 0 A) (F0 m 60 ls []) := by
          intro fuel_lp_111
          induction fuel_lp_111 with
          | zero => intros; omega
          | succ fuel_lp_111 ih_lp_111 =>
            intro f j1 H locs ls hm hr_f hi_lp_111_0 hO_j1 hfr_j1 hl hH hS
            refine lv_iload_n hx hb dX12_start_60 rfl (lv_at hl 0 rfl) ?_
            refine lv_aload_n hx hb dX12_start_61 rfl (lv_at hl 1 rfl) ?_
            have bx_112 : (0 : Int) ≤ (i 36 33).toInt ∧ (i 36 33).toInt ≤ 24 := hO 36 33
            refine h_geti (ci := 12) (C := RX12) (F := TX12) (N := 86) hx hb hts in12 hown hK hH (by decide) (rfl : kd 36 = 12) (by decide) rfl 33 (by decide) wd5 (fun _ h9 => h9) (by decide) rfl dX12_start_62 ?_
            refine sj_i (y := (i 36 33)) ((hfr_j1 36 33 (by omega)).trans ((up2_k _ _ (by decide)).trans ((up2_k _ _ (by decide)).trans ((up2_k _ _ (by decide)).trans ((up2_k _ _ (by decide)).trans ((up2_k _ _ (by decide)).trans ((hfr_100 36 33 (by omega)).trans (hfr_5 36 33 (by omega))))))))) ?_
            refine lv_icmp_ge (tgt := 81) hx hb dX12_start_65 (by decide) (fun c_113 => ?_) (fun c_113 => ?_)
            · skip
              have h_114 := s_le (rfl : (i 36 33).toInt = _) (rfl : f.toInt = _) c_113
              refine lv_aload_n hx hb dX12_start_81 rfl (lv_at hl 1 rfl) ?_
              refine lv_iconst (v := 1) hx hb dX12_start_82 (by decide) ?_
              have hO_115 := okp hO_j1 (n := 36) (k := 76) (v := 1) (show (0 : Int) ≤ (1 : Int32).toInt ∧ (1 : Int32).toInt ≤ 1 from ⟨by decide, by decide⟩)
              refine h_puti (ty := .boolean) (ci := 12) (C := RX12) (F := TX12) (N := 86) hx hb hts in12 tyX12 tyX12_ok nmX12 hown hK hH hS (by decide) (rfl : kd 36 = 12) (by decide) rfl 76 (by decide) wd6 (fun _ h9 => h9) rfl (by decide +kernel) (by decide +kernel) (by decide +kernel) (by decide) rfl dX12_start_83 (fun H locs hH hS => ?_)
              refine lv_aload_n hx hb dX12_start_86 rfl (lv_at hl 1 rfl) ?_
              refine lv_iconst (v := 0) hx hb dX12_start_87 (by decide) ?_
              refine lv_aload_n hx hb dX12_start_88 rfl (lv_at hl 1 rfl) ?_
              refine x_calli (va_runV (As := []) (rest := [.int 0, .ref (g 36)]) ⟨hx, hb, hml, hown, hts⟩ (m_wanted l D g ka ad (up2 j1 36 76 1) r L d  hO_115 hR H.size ) (cwV 0 hts gX12_start_X12_wanted rfl rfl rfl (by decide +kernel) ⟨(Nat.le_of_ble_eq_true rfl), (Nat.le_of_ble_eq_true rfl)⟩) (x_preV (q := (RX12, TX12, 86)) hH hK (q_obj (by decide) (rfl : kd 36 = 12) (by decide)) rfl gxb (gxw hE hS (x_F hH hS hA))) rfl rfl hl.1 rfl (lv_room (Nat.le_of_ble_eq_true rfl)) dX12_start_89 ⟨(Nat.le_of_ble_eq_true rfl), (Nat.le_of_ble_eq_true rfl)⟩) hH hS hA rfl rfl (fun r_116 im_118 H locs hw_117 hH hS => ?_)
              have hH : sj_H D A (hwc g ka im_118 r L d) H := hH
              obtain ⟨hO_120, hfr_119, hr_121⟩ := hw_117
              have hr_121 : (0 : Int) ≤ r_116.toInt ∧ r_116.toInt ≤ 24 := hr_121
              refine lv_iload_n hx hb dX12_start_92 rfl (lv_at hl 2 rfl) ?_
              refine lv_iconst (v := 0) hx hb dX12_start_93 (by decide) ?_
              have hl_122 : (0 : Int32).toInt = 0 := rfl
              have hl_123 : (0 : Int32).toInt = 0 := rfl
              have hp_124 : (im_118 36 81).toInt = ((i 36 81) : Int32).toInt := congrArg Int32.toInt (((hfr_119 36 81 (by omega)).trans ((up2_k _ _ (by decide)).trans ((hfr_j1 36 81 (by omega)).trans ((up2_k _ _ (by decide)).trans ((up2_k _ _ (by decide)).trans ((up2_k _ _ (by decide)).trans ((up2_k _ _ (by decide)).trans ((up2_k _ _ (by decide)).trans ((hfr_100 36 81 (by omega)).trans (hfr_5 36 81 (by omega))))))))))))
              have hp_125 : (im_118 36 81).toInt = ((i 36 81) : Int32).toInt := congrArg Int32.toInt (((hfr_119 36 81 (by omega)).trans ((up2_k _ _ (by decide)).trans ((hfr_j1 36 81 (by omega)).trans ((up2_k _ _ (by decide)).trans ((up2_k _ _ (by decide)).trans ((up2_k _ _ (by decide)).trans ((up2_k _ _ (by decide)).trans ((up2_k _ _ (by decide)).trans ((hfr_100 36 81 (by omega)).trans (hfr_5 36 81 (by omega))))))))))))
              refine x_callv (va_runV (As := [.int 0, .int r_116, .int x, .int 0]) (rest := []) ⟨hx, hb, hml, hown, hts⟩ (m_tell l D g ka ad im_118 r L d 0 r_116 x 0 hO_120 hR H.size (by omega)) (cwV 4 hts gX12_start_X12_tell rfl rfl rfl (by decide +kernel) ⟨(Nat.le_of_ble_eq_true rfl), (Nat.le_of_ble_eq_true rfl)⟩) (x_preV (q := (RX12, TX12, 86)) hH hK (q_obj (by decide) (rfl : kd 36 = 12) (by decide)) rfl gxb (gxw hE hS (x_F hH hS hA))) rfl rfl hl.1 rfl (lv_room (Nat.le_of_ble_eq_true rfl)) dX12_start_94 ⟨(Nat.le_of_ble_eq_true rfl), (Nat.le_of_ble_eq_true rfl)⟩) hH hS hA rfl rfl (fun im_128 H locs hw_127 hH hS => ?_)
              have hH : sj_H D A (hwc g ka im_128 r L d) H := hH
              obtain ⟨hO_130, hfr_129, he_131⟩ := hw_127
              refine lv_aload_n hx hb dX12_start_97 rfl (lv_at hl 1 rfl) ?_
              refine x_calli (va_runV (As := []) (rest := []) ⟨hx, hb, hml, hown, hts⟩ (m_wanted l D g ka ad im_128 r L d  hO_130 hR H.size ) (cwV 0 hts gX12_start_X12_wanted rfl rfl rfl (by decide +kernel) ⟨(Nat.le_of_ble_eq_true rfl), (Nat.le_of_ble_eq_true rfl)⟩) (x_preV (q := (RX12, TX12, 86)) hH hK (q_obj (by decide) (rfl : kd 36 = 12) (by decide)) rfl gxb (gxw hE hS (x_F hH hS hA))) rfl rfl hl.1 rfl (lv_room (Nat.le_of_ble_eq_true rfl)) dX12_start_98 ⟨(Nat.le_of_ble_eq_true rfl), (Nat.le_of_ble_eq_true rfl)⟩) hH hS hA rfl rfl (fun r_132 im_134 H locs hw_133 hH hS => ?_)
              have hH : sj_H D A (hwc g ka im_134 r L d) H := hH
              obtain ⟨hO_136, hfr_135, hr_137⟩ := hw_133
              have hr_137 : (0 : Int) ≤ r_132.toInt ∧ r_132.toInt ≤ 24 := hr_137
              refine lv_istore_n (lv' := [(2, .int r_132), (0, .ref (g 36)), (1, .int x)]) hx hb dX12_start_101 rfl hl (by decide) rfl (fun ls hl => ?_)
              refine lv_aload_n hx hb dX12_start_102 rfl (lv_at hl 1 rfl) ?_
              have hp_138 : (im_134 36 79).toInt = (0 : Int32).toInt := congrArg Int32.toInt (((hfr_135 36 79 (by omega)).trans ((hfr_129 36 79 (by omega)).trans ((hfr_119 36 79 (by omega)).trans ((up2_k _ _ (by decide)).trans ((hfr_j1 36 79 (by omega)).trans ((up2_k _ _ (by decide)).trans ((up2_k _ _ (by decide)).trans (up2_at _ _ _ _)))))))))
              have hl_139 : (0 : Int32).toInt = 0 := rfl
              have hp_140 : (im_134 36 33).toInt = ((i 36 33) : Int32).toInt := congrArg Int32.toInt (((hfr_135 36 33 (by omega)).trans ((hfr_129 36 33 (by omega)).trans ((hfr_119 36 33 (by omega)).trans ((up2_k _ _ (by decide)).trans ((hfr_j1 36 33 (by omega)).trans ((up2_k _ _ (by decide)).trans ((up2_k _ _ (by decide)).trans ((up2_k _ _ (by decide)).trans ((up2_k _ _ (by decide)).trans ((up2_k _ _ (by decide)).trans ((hfr_100 36 33 (by omega)).trans (hfr_5 36 33 (by omega))))))))))))))
              refine x_callv (va_runV (As := []) (rest := []) ⟨hx, hb, hml, hown, hts⟩ (m_seek l D g ka ad im_134 r L d  hO_136 hR H.size (by omega)) (cwV 0 hts gX12_start_X12_seek rfl rfl rfl (by decide +kernel) ⟨(Nat.le_of_ble_eq_true rfl), (Nat.le_of_ble_eq_true rfl)⟩) (x_preV (q := (RX12, TX12, 86)) hH hK (q_obj (by decide) (rfl : kd 36 = 12) (by decide)) rfl gxb (gxw hE hS (x_F hH hS hA))) rfl rfl hl.1 rfl (lv_room (Nat.le_of_ble_eq_true rfl)) dX12_start_103 ⟨(Nat.le_of_ble_eq_true rfl), (Nat.le_of_ble_eq_true rfl)⟩) hH hS hA rfl rfl (fun im_143 H locs hw_142 hH hS => ?_)
              have hH : sj_H D A (hwc g ka im_143 r L d) H := hH
              obtain ⟨hO_145, hfr_144, hx2_146, hx2_147, hx2_148⟩ := hw_142
              have hq79 : (im_134 36 79).toInt = (0 : Int32).toInt := congrArg Int32.toInt (((hfr_135 36 79 (by omega)).trans ((hfr_129 36 79 (by omega)).trans ((hfr_119 36 79 (by omega)).trans ((up2_k _ _ (by decide)).trans ((hfr_j1 36 79 (by omega)).trans ((up2_k _ _ (by decide)).trans ((up2_k _ _ (by decide)).trans (up2_at _ _ _ _)))))))))
              have hl0 : (0 : Int32).toInt = 0 := rfl
              have hp_149 : (im_143 36 77).toInt = (x : Int32).toInt := congrArg Int32.toInt (((hfr_144 36 77 (by omega)).trans ((hfr_135 36 77 (by omega)).trans ((hfr_129 36 77 (by omega)).trans ((hfr_119 36 77 (by omega)).trans ((up2_k _ _ (by decide)).trans ((hfr_j1 36 77 (by omega)).trans ((up2_k _ _ (by decide)).trans ((up2_k _ _ (by decide)).trans ((up2_k _ _ (by decide)).trans ((up2_k _ _ (by decide)).trans (up2_at _ _ _ _))))))))))))
              have hp_150 : (im_143 36 76).toInt = (1 : Int32).toInt := congrArg Int32.toInt (((hfr_144 36 76 (by omega)).trans ((hfr_135 36 76 (by omega)).trans ((hfr_129 36 76 (by omega)).trans ((hfr_119 36 76 (by omega)).trans (up2_at _ _ _ _))))))
              have hl_151 : (1 : Int32).toInt = 1 := rfl
              have hl1 : (1 : Int32).toInt = 1 := rfl
              obtain ⟨hMUs, hres⟩ := mst_run (i := i) (b := im_134) (s := im_143) (d := d) hO_145 hj (mxG_of (i := im_134) (u := im_143) ⟨(hfr_144 36 17 (by omega)), fun a h1 h2 => funext fun b9 => (hfr_144 a b9 (by omega))⟩ (hfr_144 36 33 (by omega)) (hfr_144 36 67 (by omega)) (funext fun b9 => (hfr_144 400 b9 (by omega))) (funext fun b9 => (hfr_144 420 b9 (by omega))) (funext fun b9 => (hfr_144 416 b9 (by omega))) (funext fun b9 => (hfr_144 417 b9 (by omega)))) (mxG_of (i := i) (u := im_134) ⟨((hfr_135 36 17 (by omega)).trans ((hfr_129 36 17 (by omega)).trans ((hfr_119 36 17 (by omega)).trans ((up2_o _ _ (by omega)).trans ((hfr_j1 36 17 (by omega)).trans ((up2_o _ _ (by omega)).trans ((up2_o _ _ (by omega)).trans ((up2_o _ _ (by omega)).trans ((up2_o _ _ (by omega)).trans ((up2_o _ _ (by omega)).trans ((hfr_100 36 17 (by omega)).trans (hfr_5 36 17 (by omega))))))))))))), fun a h1 h2 => funext fun b9 => ((hfr_135 a b9 (by omega)).trans ((hfr_129 a b9 (by omega)).trans ((hfr_119 a b9 (by omega)).trans ((up2_o _ _ (by omega)).trans ((hfr_j1 a b9 (by omega)).trans ((up2_o _ _ (by omega)).trans ((up2_o _ _ (by omega)).trans ((up2_o _ _ (by omega)).trans ((up2_o _ _ (by omega)).trans ((up2_o _ _ (by omega)).trans ((hfr_100 a b9 (by omega)).trans (hfr_5 a b9 (by omega)))))))))))))⟩ ((hfr_135 36 33 (by omega)).trans ((hfr_129 36 33 (by omega)).trans ((hfr_119 36 33 (by omega)).trans ((up2_o _ _ (by omega)).trans ((hfr_j1 36 33 (by omega)).trans ((up2_o _ _ (by omega)).trans ((up2_o _ _ (by omega)).trans ((up2_o _ _ (by omega)).trans ((up2_o _ _ (by omega)).trans ((up2_o _ _ (by omega)).trans ((hfr_100 36 33 (by omega)).trans (hfr_5 36 33 (by omega))))))))))))) ((hfr_135 36 67 (by omega)).trans ((hfr_129 36 67 (by omega)).trans ((hfr_119 36 67 (by omega)).trans ((up2_o _ _ (by omega)).trans ((hfr_j1 36 67 (by omega)).trans ((up2_o _ _ (by omega)).trans ((up2_o _ _ (by omega)).trans ((up2_o _ _ (by omega)).trans ((up2_o _ _ (by omega)).trans ((up2_o _ _ (by omega)).trans ((hfr_100 36 67 (by omega)).trans (hfr_5 36 67 (by omega))))))))))))) (funext fun b9 => ((hfr_135 400 b9 (by omega)).trans ((hfr_129 400 b9 (by omega)).trans ((hfr_119 400 b9 (by omega)).trans ((up2_o _ _ (by omega)).trans ((hfr_j1 400 b9 (by omega)).trans ((up2_o _ _ (by omega)).trans ((up2_o _ _ (by omega)).trans ((up2_o _ _ (by omega)).trans ((up2_o _ _ (by omega)).trans ((up2_o _ _ (by omega)).trans ((hfr_100 400 b9 (by omega)).trans (hfr_5 400 b9 (by omega)))))))))))))) (funext fun b9 => ((hfr_135 420 b9 (by omega)).trans ((hfr_129 420 b9 (by omega)).trans ((hfr_119 420 b9 (by omega)).trans ((up2_o _ _ (by omega)).trans ((hfr_j1 420 b9 (by omega)).trans ((up2_o _ _ (by omega)).trans ((up2_o _ _ (by omega)).trans ((up2_o _ _ (by omega)).trans ((up2_o _ _ (by omega)).trans ((up2_o _ _ (by omega)).trans ((hfr_100 420 b9 (by omega)).trans (hfr_5 420 b9 (by omega)))))))))))))) (funext fun b9 => ((hfr_135 416 b9 (by omega)).trans ((hfr_129 416 b9 (by omega)).trans ((hfr_119 416 b9 (by omega)).trans ((up2_o _ _ (by omega)).trans ((hfr_j1 416 b9 (by omega)).trans ((up2_o _ _ (by omega)).trans ((up2_o _ _ (by omega)).trans ((up2_o _ _ (by omega)).trans ((up2_o _ _ (by omega)).trans ((up2_o _ _ (by omega)).trans ((hfr_100 416 b9 (by omega)).trans (hfr_5 416 b9 (by omega)))))))))))))) (funext fun b9 => ((hfr_135 417 b9 (by omega)).trans ((hfr_129 417 b9 (by omega)).trans ((hfr_119 417 b9 (by omega)).trans ((up2_o _ _ (by omega)).trans ((hfr_j1 417 b9 (by omega)).trans ((up2_o _ _ (by omega)).trans ((up2_o _ _ (by omega)).trans ((up2_o _ _ (by omega)).trans ((up2_o _ _ (by omega)).trans ((up2_o _ _ (by omega)).trans ((hfr_100 417 b9 (by omega)).trans (hfr_5 417 b9 (by omega))))))))))))))) (by omega) (by omega) (funext fun b9 => ((hfr_144 427 b9 (by omega)).trans ((hfr_135 427 b9 (by omega)).trans ((hfr_129 427 b9 (by omega)).trans ((hfr_119 427 b9 (by omega)).trans ((up2_o _ _ (by omega)).trans ((hfr_j1 427 b9 (by omega)).trans ((up2_o _ _ (by omega)).trans ((up2_o _ _ (by omega)).trans ((up2_o _ _ (by omega)).trans ((up2_o _ _ (by omega)).trans ((up2_o _ _ (by omega)).trans ((hfr_100 427 b9 (by omega)).trans (hfr_5 427 b9 (by omega))))))))))))))) hx2_146 hx2_147 hx2_148
              refine lv_aload_n hx hb dX12_start_106 rfl (lv_at hl 1 rfl) ?_
              have hp_152 : (im_143 36 81).toInt = ((im_128 36 81) : Int32).toInt := congrArg Int32.toInt (((hfr_144 36 81 (by omega)).trans (hfr_135 36 81 (by omega))))
              refine x_callv (va_runV (As := []) (rest := []) ⟨hx, hb, hml, hown, hts⟩ (m_settle l D g ka ad im_143 r L d  hO_145 hR H.size (by first | omega | decide)) (cwV 0 hts gX12_start_X12_settle rfl rfl rfl (by decide +kernel) ⟨(Nat.le_of_ble_eq_true rfl), (Nat.le_of_ble_eq_true rfl)⟩) (x_preV (q := (RX12, TX12, 86)) hH hK (q_obj (by decide) (rfl : kd 36 = 12) (by decide)) rfl gxb (gxw hE hS (x_F hH hS hA))) rfl rfl hl.1 rfl (lv_room (Nat.le_of_ble_eq_true rfl)) dX12_start_107 ⟨(Nat.le_of_ble_eq_true rfl), (Nat.le_of_ble_eq_true rfl)⟩) hH hS hA rfl rfl (fun im_155 H locs hw_154 hH hS => ?_)
              have hH : sj_H D A (hwc g ka im_155 r L d) H := hH
              obtain ⟨hO_157, hfr_156, hx2_158⟩ := hw_154
              have hp_159 : (im_155 36 76).toInt = ((im_155 36 76) : Int32).toInt := rfl
              have hp_160 : (im_155 36 77).toInt = (x : Int32).toInt := congrArg Int32.toInt (((hfr_156 36 77 (by omega)).trans ((hfr_144 36 77 (by omega)).trans ((hfr_135 36 77 (by omega)).trans ((hfr_129 36 77 (by omega)).trans ((hfr_119 36 77 (by omega)).trans ((up2_k _ _ (by decide)).trans ((hfr_j1 36 77 (by omega)).trans ((up2_k _ _ (by decide)).trans ((up2_k _ _ (by decide)).trans ((up2_k _ _ (by decide)).trans ((up2_k _ _ (by decide)).trans (up2_at _ _ _ _)))))))))))))
              have hp_161 : (im_155 36 78).toInt = (0 : Int32).toInt := congrArg Int32.toInt (((hfr_156 36 78 (by omega)).trans ((hfr_144 36 78 (by omega)).trans ((hfr_135 36 78 (by omega)).trans ((hfr_129 36 78 (by omega)).trans ((hfr_119 36 78 (by omega)).trans ((up2_k _ _ (by decide)).trans ((hfr_j1 36 78 (by omega)).trans ((up2_k _ _ (by decide)).trans ((up2_k _ _ (by decide)).trans ((up2_k _ _ (by decide)).trans (up2_at _ _ _ _))))))))))))
              have hl_162 : (0 : Int32).toInt = 0 := rfl
              obtain ⟨hMI7, hre7, hk7, hp7⟩ := MI_set (i := im_143) (d := d) hO_145 rfl (mxE_of (i := im_143) (u := im_155) ⟨(hfr_156 36 17 (by omega)), fun a h1 h2 => funext fun b9 => (hfr_156 a b9 (by omega))⟩ (hfr_156 36 33 (by omega)) (hfr_156 36 67 (by omega)) (hfr_156 36 77 (by omega)) (funext fun b9 => (hfr_156 400 b9 (by omega))) (funext fun b9 => (hfr_156 420 b9 (by omega))) (funext fun b9 => (hfr_156 416 b9 (by omega))) (funext fun b9 => (hfr_156 417 b9 (by omega)))) (hfr_156 36 79 (by omega)) (funext fun b9 => (hfr_156 427 b9 (by omega))) (funext fun b9 => (hfr_156 428 b9 (by omega))) (funext fun b9 => (hfr_156 429 b9 (by omega))) hMUs (by omega) (by omega) hx2_158
              refine lv_iload_n hx hb dX12_start_110 rfl (lv_at hl 0 rfl) ?_
              have hV_163 : MI im_155 d := hMI7
              have hp_164 : (im_155 36 76).toInt = ((im_155 36 76) : Int32).toInt := rfl
              have hV_165 : ((x.toInt < 1 ∨ 3 < x.toInt) ∧ (im_155 36 76).toInt = 0) ∨ ((1 ≤ x.toInt ∧ x.toInt ≤ 3) ∧ mrest im_155 = murem i 0 ∧ ((0 < murem i 0 ∧ (im_155 36 76).toInt = 1) ∨ (murem i 0 ≤ 0 ∧ (im_155 36 76).toInt = 0))) := (Or.inr ⟨⟨by omega, by omega⟩, by omega, by rcases hk7 with ⟨h1, h2⟩ | ⟨h1, h2⟩; exact Or.inl ⟨by omega, h2⟩; exact Or.inr ⟨by omega, h2⟩⟩)
              have hp_166 : (im_155 36 81).toInt = ((im_155 36 81) : Int32).toInt := rfl
              have hV_167 : ((im_155 36 81).toInt ≤ (i 36 81).toInt + 2) := (by omega)
              exact sj_zret hx hb hr hlocks rfl hS im_155 ⟨hO_157, (fun a b ha => ((hfr_156 a b (by omega)).trans ((hfr_144 a b (by omega)).trans ((hfr_135 a b (by omega)).trans ((hfr_129 a b (by omega)).trans ((hfr_119 a b (by omega)).trans ((up2_o _ _ (by omega)).trans ((hfr_j1 a b (by omega)).trans ((up2_o _ _ (by omega)).trans ((up2_o _ _ (by omega)).trans ((up2_o _ _ (by omega)).trans ((up2_o _ _ (by omega)).trans ((up2_o _ _ (by omega)).trans ((hfr_100 a b (by omega)).trans (hfr_5 a b (by omega)))))))))))))))), hV_163, hV_165, hV_167⟩ hH (sj_Knil hK) (Nat.le_of_ble_eq_true rfl) (Nat.le_of_ble_eq_true rfl) dX12_start_111
            · skip
              have h_168 := s_nle (rfl : (i 36 33).toInt = _) (rfl : f.toInt = _) c_113
              refine lv_aload_n hx hb dX12_start_68 rfl (lv_at hl 1 rfl) ?_
              refine h_getr (ci := 12) (C := RX12) (F := TX12) (N := 86) hx hb hts in12 hown hK hH (by decide) (rfl : kd 36 = 12) (by decide) rfl 38 (by decide) wd7 (fun _ h9 => h9) (by decide) rfl (t := 401) (hR 36 38 rfl) (by decide) dX12_start_69 ?_
              refine lv_iload_n hx hb dX12_start_72 rfl (lv_at hl 0 rfl) ?_
              refine lv_iconst (v := (-1)) hx hb dX12_start_73 (by decide) ?_
              have hO_169 := okp hO_j1 (n := 401) (k := (f.toInt).toNat) (v := (-1)) (show (-1 : Int) ≤ ((-1) : Int32).toInt ∧ ((-1) : Int32).toInt ≤ 5 from ⟨by decide, by decide⟩)
              refine h_iast hx hb hK hH hS (by decide) (rfl : kd 401 = 13) (s_vin (N := 24) (rfl : f.toInt = _) (rfl : ln 401 = 24) (by omega) (by omega)) dX12_start_74 (fun H locs hH hS => ?_)
              rw [s_cl (show f.toInt = f.toInt by omega)] at hH
              obtain ⟨z_170, ez_170, hz_170⟩ := s_add (rfl : f.toInt = _) (show (1 : Int32).toInt = 1 from rfl) (by omega) (by omega)
              refine lv_iinc (v := z_170) (lv' := [(2, .int z_170), (0, .ref (g 36)), (1, .int x)]) hx hb dX12_start_75 hl (k := 0) rfl ez_170 (by decide) rfl (fun ls hl => ?_)
              refine lv_goto (tgt := 60) hx hb dX12_start_78 (by decide) ?_
              exact ih_lp_111 z_170 _ _ _ ls (by omega) (by omega) (by omega) hO_169 (fun a b ha => ((up2_o _ _ (by omega)).trans (hfr_j1 a b (by omega)))) (lv_sub hl [0, 1, 2] rfl) hH hS
        have hl_171 : (0 : Int32).toInt = 0 := rfl
        exact lp_111 _ 0 _ _ _ ls (Nat.lt_succ_self _) (by omega) (by omega) hO_110 (fun a b ha => rfl) (lv_sub hl [0, 1, 2] rfl) hH hS
      · skip
        have h_172 := s_ne (rfl : r_97.toInt = _) (show (0 : Int32).toInt = 0 from rfl) c_104
        refine lv_iconst (v := 0) hx hb dX12_start_31 (by decide) ?_
        have hV_173 : MI im_99 d := (MI_off (i := i) hMI hb76 ((hfr_100 36 76 (by omega)).trans (hfr_5 36 76 (by omega))) (funext fun b9 => ((hfr_100 427 b9 (by omega)).trans (hfr_5 427 b9 (by omega)))))
        have hp_174 : (im_99 36 76).toInt = ((i 36 76) : Int32).toInt := congrArg Int32.toInt (((hfr_100 36 76 (by omega)).trans (hfr_5 36 76 (by omega))))
        have hV_175 : ((x.toInt < 1 ∨ 3 < x.toInt) ∧ (im_99 36 76).toInt = 0) ∨ ((1 ≤ x.toInt ∧ x.toInt ≤ 3) ∧ mrest im_99 = murem i 0 ∧ ((0 < murem i 0 ∧ (im_99 36 76).toInt = 1) ∨ (murem i 0 ≤ 0 ∧ (im_99 36 76).toInt = 0))) := (Or.inl ⟨by omega, by omega⟩)
        have hp_176 : (im_99 36 81).toInt = ((i 36 81) : Int32).toInt := congrArg Int32.toInt (((hfr_100 36 81 (by omega)).trans (hfr_5 36 81 (by omega))))
        have hV_177 : ((im_99 36 81).toInt ≤ (i 36 81).toInt + 2) := (by omega)
        exact sj_zret hx hb hr hlocks rfl hS im_99 ⟨hO_101, (fun a b ha => ((hfr_100 a b (by omega)).trans (hfr_5 a b (by omega)))), hV_173, hV_175, hV_177⟩ hH (sj_Knil hK) (Nat.le_of_ble_eq_true rfl) (Nat.le_of_ble_eq_true rfl) dX12_start_32
    · skip
      have h_178 := s_nle (rfl : x.toInt = _) (show (3 : Int32).toInt = 3 from rfl) c_94
      refine lv_iconst (v := 2) hx hb dX12_start_20 (by decide) ?_
      refine lv_goto (tgt := 25) hx hb dX12_start_21 (by decide) ?_
      have hl_179 : (2 : Int32).toInt = 2 := rfl
      refine x_calli (va_runV (As := [.int 2]) (rest := []) ⟨hx, hb, hml, hown, hts⟩ (m_throwsNow l D g ka ad im_4 r L d 2 hO_6 hR H.size (by first | omega | decide) (by first | omega | decide)) (cwV 1 hts gX12_start_X12_throwsNow rfl rfl rfl (by decide +kernel) ⟨(Nat.le_of_ble_eq_true rfl), (Nat.le_of_ble_eq_true rfl)⟩) (x_preV (q := (RX12, TX12, 86)) hH hK (q_obj (by decide) (rfl : kd 36 = 12) (by decide)) rfl gxb (gxw hE hS (x_F hH hS hA))) rfl rfl hl.1 rfl (lv_room (Nat.le_of_ble_eq_true rfl)) dX12_start_25 ⟨(Nat.le_of_ble_eq_true rfl), (Nat.le_of_ble_eq_true rfl)⟩) hH hS hA rfl rfl (fun r_180 im_182 H locs hw_181 hH hS => ?_)
      have hH : sj_H D A (hwc g ka im_182 r L d) H := hH
      obtain ⟨hO_184, hfr_183, hr_185, he_186⟩ := hw_181
      have hr_185 : (0 : Int) ≤ r_180.toInt ∧ r_180.toInt ≤ 1 := hr_185
      refine lv_if_eq (tgt := 33) hx hb dX12_start_28 (by decide) (fun c_187 => ?_) (fun c_187 => ?_)
      · skip
        have h_188 := s_eq (rfl : r_180.toInt = _) (show (0 : Int32).toInt = 0 from rfl) c_187
        refine lv_aload_n hx hb dX12_start_33 rfl (lv_at hl 0 rfl) ?_
        refine lv_iload_n hx hb dX12_start_34 rfl (lv_at hl 1 rfl) ?_
        have hO_189 := okp hO_184 (n := 36) (k := 77) (v := x) (show (0 : Int) ≤ (x : Int32).toInt ∧ (x : Int32).toInt ≤ 3 from ⟨by omega, by omega⟩)
        refine h_puti (ty := .int) (ci := 12) (C := RX12) (F := TX12) (N := 86) hx hb hts in12 tyX12 tyX12_ok nmX12 hown hK hH hS (by decide) (rfl : kd 36 = 12) (by decide) rfl 77 (by decide) wd0 (fun _ h9 => h9) rfl (by decide +kernel) rfl rfl (by decide) rfl dX12_start_35 (fun H locs hH hS => ?_)
        refine lv_aload_n hx hb dX12_start_38 rfl (lv_at hl 0 rfl) ?_
        refine lv_iconst (v := 0) hx hb dX12_start_39 (by decide) ?_
        have hO_190 := okp hO_189 (n := 36) (k := 78) (v := 0) (show (0 : Int) ≤ (0 : Int32).toInt ∧ (0 : Int32).toInt ≤ 2 from ⟨by decide, by decide⟩)
        refine h_puti (ty := .int) (ci := 12) (C := RX12) (F := TX12) (N := 86) hx hb hts in12 tyX12 tyX12_ok nmX12 hown hK hH hS (by decide) (rfl : kd 36 = 12) (by decide) rfl 78 (by decide) wd1 (fun _ h9 => h9) rfl (by decide +kernel) rfl rfl (by decide) rfl dX12_start_40 (fun H locs hH hS => ?_)
        refine lv_aload_n hx hb dX12_start_43 rfl (lv_at hl 0 rfl) ?_
        refine lv_iconst (v := 0) hx hb dX12_start_44 (by decide) ?_
        have hO_191 := okp hO_190 (n := 36) (k := 79) (v := 0) (show (0 : Int) ≤ (0 : Int32).toInt ∧ (0 : Int32).toInt ≤ 24 from ⟨by decide, by decide⟩)
        refine h_puti (ty := .int) (ci := 12) (C := RX12) (F := TX12) (N := 86) hx hb hts in12 tyX12 tyX12_ok nmX12 hown hK hH hS (by decide) (rfl : kd 36 = 12) (by decide) rfl 79 (by decide) wd2 (fun _ h9 => h9) rfl (by decide +kernel) rfl rfl (by decide) rfl dX12_start_45 (fun H locs hH hS => ?_)
        refine lv_aload_n hx hb dX12_start_48 rfl (lv_at hl 0 rfl) ?_
        refine lv_iconst (v := 0) hx hb dX12_start_49 (by decide) ?_
        have hO_192 := okp hO_191 (n := 36) (k := 80) (v := 0) (show (0 : Int) ≤ (0 : Int32).toInt ∧ (0 : Int32).toInt ≤ 5 from ⟨by decide, by decide⟩)
        refine h_puti (ty := .int) (ci := 12) (C := RX12) (F := TX12) (N := 86) hx hb hts in12 tyX12 tyX12_ok nmX12 hown hK hH hS (by decide) (rfl : kd 36 = 12) (by decide) rfl 80 (by decide) wd3 (fun _ h9 => h9) rfl (by decide +kernel) rfl rfl (by decide) rfl dX12_start_50 (fun H locs hH hS => ?_)
        refine lv_aload_n hx hb dX12_start_53 rfl (lv_at hl 0 rfl) ?_
        refine lv_iconst (v := 0) hx hb dX12_start_54 (by decide) ?_
        have hO_193 := okp hO_192 (n := 36) (k := 75) (v := 0) (show (-2147483648 : Int) ≤ (0 : Int32).toInt ∧ (0 : Int32).toInt ≤ 2147483647 from s_rng 0)
        refine h_puti (ty := .int) (ci := 12) (C := RX12) (F := TX12) (N := 86) hx hb hts in12 tyX12 tyX12_ok nmX12 hown hK hH hS (by decide) (rfl : kd 36 = 12) (by decide) rfl 75 (by decide) wd4 (fun _ h9 => h9) rfl (by decide +kernel) rfl rfl (by decide) rfl dX12_start_55 (fun H locs hH hS => ?_)
        refine lv_iconst (v := 0) hx hb dX12_start_58 (by decide) ?_
        refine lv_istore_n (lv' := [(2, .int 0), (0, .ref (g 36)), (1, .int x)]) hx hb dX12_start_59 rfl hl (by decide) rfl (fun ls hl => ?_)
        -- loop at 60
        have lp_194 : ∀ (fuel_lp_194 : Nat) (f : Int32) (j1 : Nat → Nat → Int32) (H : Heap) (locs : List Loc) (ls : Array Slot), (24 - f.toInt).toNat < fuel_lp_194 → (0 : Int) ≤ f.toInt ∧ f.toInt ≤ 24 → f.toInt ≤ (i 36 33).toInt → OkI j1 → (∀ a b, ¬ (a = 401) → j1 a b = (up2 (up2 (up2 (up2 (up2 im_182 36 77 x) 36 78 0) 36 79 0) 36 80 0) 36 75 0) a b) → lv_has ls 3 [(2, .int f), (0, .ref (g 36)), (1, .int x)] → sj_H D A (hwc g ka j1 r L d) H → va_S A s.heap H locs → W p l e (headSpec wsX12_start ({ frames := 6, cells := 0, slots := 0, locals := 135 })).room s m ([.ref (g 36), .int x] : List Value).toArray below meth c H locs 0 0 (MQ below (sj_Qi (S := (Nat → Nat → Int32)) D (fun v u => OkI u ∧ (∀ a b, ¬ ((a = 36 ∧ (b = 0 ∨ b = 65 ∨ b = 66 ∨ b = 75 ∨ b = 76 ∨ b = 77 ∨ b = 78 ∨ b = 79 ∨ b = 80 ∨ b = 81)) ∨ a = 401 ∨ a = 418 ∨ a = 419 ∨ a = 426) → u a b = i a b) ∧ (MI u d) ∧ (((x.toInt < 1 ∨ 3 < x.toInt) ∧ (u 36 76).toInt = 0) ∨ ((1 ≤ x.toInt ∧ x.toInt ≤ 3) ∧ mrest u = murem i 0 ∧ ((0 < murem i 0 ∧ (u 36 76).toInt = 1) ∨ (murem i 0 ≤ 0 ∧ (u 36 76).toInt = 0)))) ∧ (((u 36 81).toInt ≤ (i 36 81).toInt + 2))) (fun u => hwc g ka u r L d) (fun _ => []) A) ([.ref (g 36), .int x] : List Value).toArray s 0 0 A) (F0 m 60 ls []) := by
          intro fuel_lp_194
          induction fuel_lp_194 with
          | zero => intros; omega
          | succ fuel_lp_194 ih_lp_194 =>
            intro f j1 H locs ls hm hr_f hi_lp_194_0 hO_j1 hfr_j1 hl hH hS
            refine lv_iload_n hx hb dX12_start_60 rfl (lv_at hl 0 rfl) ?_
            refine lv_aload_n hx hb dX12_start_61 rfl (lv_at hl 1 rfl) ?_
            have bx_195 : (0 : Int) ≤ (i 36 33).toInt ∧ (i 36 33).toInt ≤ 24 := hO 36 33
            refine h_geti (ci := 12) (C := RX12) (F := TX12) (N := 86) hx hb hts in12 hown hK hH (by decide) (rfl : kd 36 = 12) (by decide) rfl 33 (by decide) wd5 (fun _ h9 => h9) (by decide) rfl dX12_start_62 ?_
            refine sj_i (y := (i 36 33)) ((hfr_j1 36 33 (by omega)).trans ((up2_k _ _ (by decide)).trans ((up2_k _ _ (by decide)).trans ((up2_k _ _ (by decide)).trans ((up2_k _ _ (by decide)).trans ((up2_k _ _ (by decide)).trans ((hfr_183 36 33 (by omega)).trans (hfr_5 36 33 (by omega))))))))) ?_
            refine lv_icmp_ge (tgt := 81) hx hb dX12_start_65 (by decide) (fun c_196 => ?_) (fun c_196 => ?_)
            · skip
              have h_197 := s_le (rfl : (i 36 33).toInt = _) (rfl : f.toInt = _) c_196
              refine lv_aload_n hx hb dX12_start_81 rfl (lv_at hl 1 rfl) ?_
              refine lv_iconst (v := 1) hx hb dX12_start_82 (by decide) ?_
              have hO_198 := okp hO_j1 (n := 36) (k := 76) (v := 1) (show (0 : Int) ≤ (1 : Int32).toInt ∧ (1 : Int32).toInt ≤ 1 from ⟨by decide, by decide⟩)
              refine h_puti (ty := .boolean) (ci := 12) (C := RX12) (F := TX12) (N := 86) hx hb hts in12 tyX12 tyX12_ok nmX12 hown hK hH hS (by decide) (rfl : kd 36 = 12) (by decide) rfl 76 (by decide) wd6 (fun _ h9 => h9) rfl (by decide +kernel) (by decide +kernel) (by decide +kernel) (by decide) rfl dX12_start_83 (fun H locs hH hS => ?_)
              refine lv_aload_n hx hb dX12_start_86 rfl (lv_at hl 1 rfl) ?_
              refine lv_iconst (v := 0) hx hb dX12_start_87 (by decide) ?_
              refine lv_aload_n hx hb dX12_start_88 rfl (lv_at hl 1 rfl) ?_
              refine x_calli (va_runV (As := []) (rest := [.int 0, .ref (g 36)]) ⟨hx, hb, hml, hown, hts⟩ (m_wanted l D g ka ad (up2 j1 36 76 1) r L d  hO_198 hR H.size ) (cwV 0 hts gX12_start_X12_wanted rfl rfl rfl (by decide +kernel) ⟨(Nat.le_of_ble_eq_true rfl), (Nat.le_of_ble_eq_true rfl)⟩) (x_preV (q := (RX12, TX12, 86)) hH hK (q_obj (by decide) (rfl : kd 36 = 12) (by decide)) rfl gxb (gxw hE hS (x_F hH hS hA))) rfl rfl hl.1 rfl (lv_room (Nat.le_of_ble_eq_true rfl)) dX12_start_89 ⟨(Nat.le_of_ble_eq_true rfl), (Nat.le_of_ble_eq_true rfl)⟩) hH hS hA rfl rfl (fun r_199 im_201 H locs hw_200 hH hS => ?_)
              have hH : sj_H D A (hwc g ka im_201 r L d) H := hH
              obtain ⟨hO_203, hfr_202, hr_204⟩ := hw_200
              have hr_204 : (0 : Int) ≤ r_199.toInt ∧ r_199.toInt ≤ 24 := hr_204
              refine lv_iload_n hx hb dX12_start_92 rfl (lv_at hl 2 rfl) ?_
              refine lv_iconst (v := 0) hx hb dX12_start_93 (by decide) ?_
              have hl_205 : (0 : Int32).toInt = 0 := rfl
              have hl_206 : (0 : Int32).toInt = 0 := rfl
              have hp_207 : (im_201 36 81).toInt = ((i 36 81) : Int32).toInt := congrArg Int32.toInt (((hfr_202 36 81 (by omega)).trans ((up2_k _ _ (by decide)).trans ((hfr_j1 36 81 (by omega)).trans ((up2_k _ _ (by decide)).trans ((up2_k _ _ (by decide)).trans ((up2_k _ _ (by decide)).trans ((up2_k _ _ (by decide)).trans ((up2_k _ _ (by decide)).trans ((hfr_183 36 81 (by omega)).trans (hfr_5 36 81 (by omega))))))))))))
              have hp_208 : (im_201 36 81).toInt = ((i 36 81) : Int32).toInt := congrArg Int32.toInt (((hfr_202 36 81 (by omega)).trans ((up2_k _ _ (by decide)).trans ((hfr_j1 36 81 (by omega)).trans ((up2_k _ _ (by decide)).trans ((up2_k _ _ (by decide)).trans ((up2_k _ _ (by decide)).trans ((up2_k _ _ (by decide)).trans ((up2_k _ _ (by decide)).trans ((hfr_183 36 81 (by omega)).trans (hfr_5 36 81 (by omega))))))))))))
              refine x_callv (va_runV (As := [.int 0, .int r_199, .int x, .int 0]) (rest := []) ⟨hx, hb, hml, hown, hts⟩ (m_tell l D g ka ad im_201 r L d 0 r_199 x 0 hO_203 hR H.size (by omega)) (cwV 4 hts gX12_start_X12_tell rfl rfl rfl (by decide +kernel) ⟨(Nat.le_of_ble_eq_true rfl), (Nat.le_of_ble_eq_true rfl)⟩) (x_preV (q := (RX12, TX12, 86)) hH hK (q_obj (by decide) (rfl : kd 36 = 12) (by decide)) rfl gxb (gxw hE hS (x_F hH hS hA))) rfl rfl hl.1 rfl (lv_room (Nat.le_of_ble_eq_true rfl)) dX12_start_94 ⟨(Nat.le_of_ble_eq_true rfl), (Nat.le_of_ble_eq_true rfl)⟩) hH hS hA rfl rfl (fun im_211 H locs hw_210 hH hS => ?_)
              have hH : sj_H D A (hwc g ka im_211 r L d) H := hH
              obtain ⟨hO_213, hfr_212, he_214⟩ := hw_210
              refine lv_aload_n hx hb dX12_start_97 rfl (lv_at hl 1 rfl) ?_
              refine x_calli (va_runV (As := []) (rest := []) ⟨hx, hb, hml, hown, hts⟩ (m_wanted l D g ka ad im_211 r L d  hO_213 hR H.size ) (cwV 0 hts gX12_start_X12_wanted rfl rfl rfl (by decide +kernel) ⟨(Nat.le_of_ble_eq_true rfl), (Nat.le_of_ble_eq_true rfl)⟩) (x_preV (q := (RX12, TX12, 86)) hH hK (q_obj (by decide) (rfl : kd 36 = 12) (by decide)) rfl gxb (gxw hE hS (x_F hH hS hA))) rfl rfl hl.1 rfl (lv_room (Nat.le_of_ble_eq_true rfl)) dX12_start_98 ⟨(Nat.le_of_ble_eq_true rfl), (Nat.le_of_ble_eq_true rfl)⟩) hH hS hA rfl rfl (fun r_215 im_217 H locs hw_216 hH hS => ?_)
              have hH : sj_H D A (hwc g ka im_217 r L d) H := hH
              obtain ⟨hO_219, hfr_218, hr_220⟩ := hw_216
              have hr_220 : (0 : Int) ≤ r_215.toInt ∧ r_215.toInt ≤ 24 := hr_220
              refine lv_istore_n (lv' := [(2, .int r_215), (0, .ref (g 36)), (1, .int x)]) hx hb dX12_start_101 rfl hl (by decide) rfl (fun ls hl => ?_)
              refine lv_aload_n hx hb dX12_start_102 rfl (lv_at hl 1 rfl) ?_
              have hp_221 : (im_217 36 79).toInt = (0 : Int32).toInt := congrArg Int32.toInt (((hfr_218 36 79 (by omega)).trans ((hfr_212 36 79 (by omega)).trans ((hfr_202 36 79 (by omega)).trans ((up2_k _ _ (by decide)).trans ((hfr_j1 36 79 (by omega)).trans ((up2_k _ _ (by decide)).trans ((up2_k _ _ (by decide)).trans (up2_at _ _ _ _)))))))))
              have hl_222 : (0 : Int32).toInt = 0 := rfl
              have hp_223 : (im_217 36 33).toInt = ((i 36 33) : Int32).toInt := congrArg Int32.toInt (((hfr_218 36 33 (by omega)).trans ((hfr_212 36 33 (by omega)).trans ((hfr_202 36 33 (by omega)).trans ((up2_k _ _ (by decide)).trans ((hfr_j1 36 33 (by omega)).trans ((up2_k _ _ (by decide)).trans ((up2_k _ _ (by decide)).trans ((up2_k _ _ (by decide)).trans ((up2_k _ _ (by decide)).trans ((up2_k _ _ (by decide)).trans ((hfr_183 36 33 (by omega)).trans (hfr_5 36 33 (by omega))))))))))))))
              refine x_callv (va_runV (As := []) (rest := []) ⟨hx, hb, hml, hown, hts⟩ (m_seek l D g ka ad im_217 r L d  hO_219 hR H.size (by omega)) (cwV 0 hts gX12_start_X12_seek rfl rfl rfl (by decide +kernel) ⟨(Nat.le_of_ble_eq_true rfl), (Nat.le_of_ble_eq_true rfl)⟩) (x_preV (q := (RX12, TX12, 86)) hH hK (q_obj (by decide) (rfl : kd 36 = 12) (by decide)) rfl gxb (gxw hE hS (x_F hH hS hA))) rfl rfl hl.1 rfl (lv_room (Nat.le_of_ble_eq_true rfl)) dX12_start_103 ⟨(Nat.le_of_ble_eq_true rfl), (Nat.le_of_ble_eq_true rfl)⟩) hH hS hA rfl rfl (fun im_226 H locs hw_225 hH hS => ?_)
              have hH : sj_H D A (hwc g ka im_226 r L d) H := hH
              obtain ⟨hO_228, hfr_227, hx2_229, hx2_230, hx2_231⟩ := hw_225
              have hq79 : (im_217 36 79).toInt = (0 : Int32).toInt := congrArg Int32.toInt (((hfr_218 36 79 (by omega)).trans ((hfr_212 36 79 (by omega)).trans ((hfr_202 36 79 (by omega)).trans ((up2_k _ _ (by decide)).trans ((hfr_j1 36 79 (by omega)).trans ((up2_k _ _ (by decide)).trans ((up2_k _ _ (by decide)).trans (up2_at _ _ _ _)))))))))
              have hl0 : (0 : Int32).toInt = 0 := rfl
              have hp_232 : (im_226 36 77).toInt = (x : Int32).toInt := congrArg Int32.toInt (((hfr_227 36 77 (by omega)).trans ((hfr_218 36 77 (by omega)).trans ((hfr_212 36 77 (by omega)).trans ((hfr_202 36 77 (by omega)).trans ((up2_k _ _ (by decide)).trans ((hfr_j1 36 77 (by omega)).trans ((up2_k _ _ (by decide)).trans ((up2_k _ _ (by decide)).trans ((up2_k _ _ (by decide)).trans ((up2_k _ _ (by decide)).trans (up2_at _ _ _ _))))))))))))
              have hp_233 : (im_226 36 76).toInt = (1 : Int32).toInt := congrArg Int32.toInt (((hfr_227 36 76 (by omega)).trans ((hfr_218 36 76 (by omega)).trans ((hfr_212 36 76 (by omega)).trans ((hfr_202 36 76 (by omega)).trans (up2_at _ _ _ _))))))
              have hl_234 : (1 : Int32).toInt = 1 := rfl
              have hl1 : (1 : Int32).toInt = 1 := rfl
              obtain ⟨hMUs, hres⟩ := mst_run (i := i) (b := im_217) (s := im_226) (d := d) hO_228 hj (mxG_of (i := im_217) (u := im_226) ⟨(hfr_227 36 17 (by omega)), fun a h1 h2 => funext fun b9 => (hfr_227 a b9 (by omega))⟩ (hfr_227 36 33 (by omega)) (hfr_227 36 67 (by omega)) (funext fun b9 => (hfr_227 400 b9 (by omega))) (funext fun b9 => (hfr_227 420 b9 (by omega))) (funext fun b9 => (hfr_227 416 b9 (by omega))) (funext fun b9 => (hfr_227 417 b9 (by omega)))) (mxG_of (i := i) (u := im_217) ⟨((hfr_218 36 17 (by omega)).trans ((hfr_212 36 17 (by omega)).trans ((hfr_202 36 17 (by omega)).trans ((up2_o _ _ (by omega)).trans ((hfr_j1 36 17 (by omega)).trans ((up2_o _ _ (by omega)).trans ((up2_o _ _ (by omega)).trans ((up2_o _ _ (by omega)).trans ((up2_o _ _ (by omega)).trans ((up2_o _ _ (by omega)).trans ((hfr_183 36 17 (by omega)).trans (hfr_5 36 17 (by omega))))))))))))), fun a h1 h2 => funext fun b9 => ((hfr_218 a b9 (by omega)).trans ((hfr_212 a b9 (by omega)).trans ((hfr_202 a b9 (by omega)).trans ((up2_o _ _ (by omega)).trans ((hfr_j1 a b9 (by omega)).trans ((up2_o _ _ (by omega)).trans ((up2_o _ _ (by omega)).trans ((up2_o _ _ (by omega)).trans ((up2_o _ _ (by omega)).trans ((up2_o _ _ (by omega)).trans ((hfr_183 a b9 (by omega)).trans (hfr_5 a b9 (by omega)))))))))))))⟩ ((hfr_218 36 33 (by omega)).trans ((hfr_212 36 33 (by omega)).trans ((hfr_202 36 33 (by omega)).trans ((up2_o _ _ (by omega)).trans ((hfr_j1 36 33 (by omega)).trans ((up2_o _ _ (by omega)).trans ((up2_o _ _ (by omega)).trans ((up2_o _ _ (by omega)).trans ((up2_o _ _ (by omega)).trans ((up2_o _ _ (by omega)).trans ((hfr_183 36 33 (by omega)).trans (hfr_5 36 33 (by omega))))))))))))) ((hfr_218 36 67 (by omega)).trans ((hfr_212 36 67 (by omega)).trans ((hfr_202 36 67 (by omega)).trans ((up2_o _ _ (by omega)).trans ((hfr_j1 36 67 (by omega)).trans ((up2_o _ _ (by omega)).trans ((up2_o _ _ (by omega)).trans ((up2_o _ _ (by omega)).trans ((up2_o _ _ (by omega)).trans ((up2_o _ _ (by omega)).trans ((hfr_183 36 67 (by omega)).trans (hfr_5 36 67 (by omega))))))))))))) (funext fun b9 => ((hfr_218 400 b9 (by omega)).trans ((hfr_212 400 b9 (by omega)).trans ((hfr_202 400 b9 (by omega)).trans ((up2_o _ _ (by omega)).trans ((hfr_j1 400 b9 (by omega)).trans ((up2_o _ _ (by omega)).trans ((up2_o _ _ (by omega)).trans ((up2_o _ _ (by omega)).trans ((up2_o _ _ (by omega)).trans ((up2_o _ _ (by omega)).trans ((hfr_183 400 b9 (by omega)).trans (hfr_5 400 b9 (by omega)))))))))))))) (funext fun b9 => ((hfr_218 420 b9 (by omega)).trans ((hfr_212 420 b9 (by omega)).trans ((hfr_202 420 b9 (by omega)).trans ((up2_o _ _ (by omega)).trans ((hfr_j1 420 b9 (by omega)).trans ((up2_o _ _ (by omega)).trans ((up2_o _ _ (by omega)).trans ((up2_o _ _ (by omega)).trans ((up2_o _ _ (by omega)).trans ((up2_o _ _ (by omega)).trans ((hfr_183 420 b9 (by omega)).trans (hfr_5 420 b9 (by omega)))))))))))))) (funext fun b9 => ((hfr_218 416 b9 (by omega)).trans ((hfr_212 416 b9 (by omega)).trans ((hfr_202 416 b9 (by omega)).trans ((up2_o _ _ (by omega)).trans ((hfr_j1 416 b9 (by omega)).trans ((up2_o _ _ (by omega)).trans ((up2_o _ _ (by omega)).trans ((up2_o _ _ (by omega)).trans ((up2_o _ _ (by omega)).trans ((up2_o _ _ (by omega)).trans ((hfr_183 416 b9 (by omega)).trans (hfr_5 416 b9 (by omega)))))))))))))) (funext fun b9 => ((hfr_218 417 b9 (by omega)).trans ((hfr_212 417 b9 (by omega)).trans ((hfr_202 417 b9 (by omega)).trans ((up2_o _ _ (by omega)).trans ((hfr_j1 417 b9 (by omega)).trans ((up2_o _ _ (by omega)).trans ((up2_o _ _ (by omega)).trans ((up2_o _ _ (by omega)).trans ((up2_o _ _ (by omega)).trans ((up2_o _ _ (by omega)).trans ((hfr_183 417 b9 (by omega)).trans (hfr_5 417 b9 (by omega))))))))))))))) (by omega) (by omega) (funext fun b9 => ((hfr_227 427 b9 (by omega)).trans ((hfr_218 427 b9 (by omega)).trans ((hfr_212 427 b9 (by omega)).trans ((hfr_202 427 b9 (by omega)).trans ((up2_o _ _ (by omega)).trans ((hfr_j1 427 b9 (by omega)).trans ((up2_o _ _ (by omega)).trans ((up2_o _ _ (by omega)).trans ((up2_o _ _ (by omega)).trans ((up2_o _ _ (by omega)).trans ((up2_o _ _ (by omega)).trans ((hfr_183 427 b9 (by omega)).trans (hfr_5 427 b9 (by omega))))))))))))))) hx2_229 hx2_230 hx2_231
              refine lv_aload_n hx hb dX12_start_106 rfl (lv_at hl 1 rfl) ?_
              have hp_235 : (im_226 36 81).toInt = ((im_211 36 81) : Int32).toInt := congrArg Int32.toInt (((hfr_227 36 81 (by omega)).trans (hfr_218 36 81 (by omega))))
              refine x_callv (va_runV (As := []) (rest := []) ⟨hx, hb, hml, hown, hts⟩ (m_settle l D g ka ad im_226 r L d  hO_228 hR H.size (by first | omega | decide)) (cwV 0 hts gX12_start_X12_settle rfl rfl rfl (by decide +kernel) ⟨(Nat.le_of_ble_eq_true rfl), (Nat.le_of_ble_eq_true rfl)⟩) (x_preV (q := (RX12, TX12, 86)) hH hK (q_obj (by decide) (rfl : kd 36 = 12) (by decide)) rfl gxb (gxw hE hS (x_F hH hS hA))) rfl rfl hl.1 rfl (lv_room (Nat.le_of_ble_eq_true rfl)) dX12_start_107 ⟨(Nat.le_of_ble_eq_true rfl), (Nat.le_of_ble_eq_true rfl)⟩) hH hS hA rfl rfl (fun im_238 H locs hw_237 hH hS => ?_)
              have hH : sj_H D A (hwc g ka im_238 r L d) H := hH
              obtain ⟨hO_240, hfr_239, hx2_241⟩ := hw_237
              have hp_242 : (im_238 36 76).toInt = ((im_238 36 76) : Int32).toInt := rfl
              have hp_243 : (im_238 36 77).toInt = (x : Int32).toInt := congrArg Int32.toInt (((hfr_239 36 77 (by omega)).trans ((hfr_227 36 77 (by omega)).trans ((hfr_218 36 77 (by omega)).trans ((hfr_212 36 77 (by omega)).trans ((hfr_202 36 77 (by omega)).trans ((up2_k _ _ (by decide)).trans ((hfr_j1 36 77 (by omega)).trans ((up2_k _ _ (by decide)).trans ((up2_k _ _ (by decide)).trans ((up2_k _ _ (by decide)).trans ((up2_k _ _ (by decide)).trans (up2_at _ _ _ _)))))))))))))
              have hp_244 : (im_238 36 78).toInt = (0 : Int32).toInt := congrArg Int32.toInt (((hfr_239 36 78 (by omega)).trans ((hfr_227 36 78 (by omega)).trans ((hfr_218 36 78 (by omega)).trans ((hfr_212 36 78 (by omega)).trans ((hfr_202 36 78 (by omega)).trans ((up2_k _ _ (by decide)).trans ((hfr_j1 36 78 (by omega)).trans ((up2_k _ _ (by decide)).trans ((up2_k _ _ (by decide)).trans ((up2_k _ _ (by decide)).trans (up2_at _ _ _ _))))))))))))
              have hl_245 : (0 : Int32).toInt = 0 := rfl
              obtain ⟨hMI7, hre7, hk7, hp7⟩ := MI_set (i := im_226) (d := d) hO_228 rfl (mxE_of (i := im_226) (u := im_238) ⟨(hfr_239 36 17 (by omega)), fun a h1 h2 => funext fun b9 => (hfr_239 a b9 (by omega))⟩ (hfr_239 36 33 (by omega)) (hfr_239 36 67 (by omega)) (hfr_239 36 77 (by omega)) (funext fun b9 => (hfr_239 400 b9 (by omega))) (funext fun b9 => (hfr_239 420 b9 (by omega))) (funext fun b9 => (hfr_239 416 b9 (by omega))) (funext fun b9 => (hfr_239 417 b9 (by omega)))) (hfr_239 36 79 (by omega)) (funext fun b9 => (hfr_239 427 b9 (by omega))) (funext fun b9 => (hfr_239 428 b9 (by omega))) (funext fun b9 => (hfr_239 429 b9 (by omega))) hMUs (by omega) (by omega) hx2_241
              refine lv_iload_n hx hb dX12_start_110 rfl (lv_at hl 0 rfl) ?_
              have hV_246 : MI im_238 d := hMI7
              have hp_247 : (im_238 36 76).toInt = ((im_238 36 76) : Int32).toInt := rfl
              have hV_248 : ((x.toInt < 1 ∨ 3 < x.toInt) ∧ (im_238 36 76).toInt = 0) ∨ ((1 ≤ x.toInt ∧ x.toInt ≤ 3) ∧ mrest im_238 = murem i 0 ∧ ((0 < murem i 0 ∧ (im_238 36 76).toInt = 1) ∨ (murem i 0 ≤ 0 ∧ (im_238 36 76).toInt = 0))) := (Or.inr ⟨⟨by omega, by omega⟩, by omega, by rcases hk7 with ⟨h1, h2⟩ | ⟨h1, h2⟩; exact Or.inl ⟨by omega, h2⟩; exact Or.inr ⟨by omega, h2⟩⟩)
              have hp_249 : (im_238 36 81).toInt = ((im_238 36 81) : Int32).toInt := rfl
              have hV_250 : ((im_238 36 81).toInt ≤ (i 36 81).toInt + 2) := (by omega)
              exact sj_zret hx hb hr hlocks rfl hS im_238 ⟨hO_240, (fun a b ha => ((hfr_239 a b (by omega)).trans ((hfr_227 a b (by omega)).trans ((hfr_218 a b (by omega)).trans ((hfr_212 a b (by omega)).trans ((hfr_202 a b (by omega)).trans ((up2_o _ _ (by omega)).trans ((hfr_j1 a b (by omega)).trans ((up2_o _ _ (by omega)).trans ((up2_o _ _ (by omega)).trans ((up2_o _ _ (by omega)).trans ((up2_o _ _ (by omega)).trans ((up2_o _ _ (by omega)).trans ((hfr_183 a b (by omega)).trans (hfr_5 a b (by omega)))))))))))))))), hV_246, hV_248, hV_250⟩ hH (sj_Knil hK) (Nat.le_of_ble_eq_true rfl) (Nat.le_of_ble_eq_true rfl) dX12_start_111
            · skip
              have h_251 := s_nle (rfl : (i 36 33).toInt = _) (rfl : f.toInt = _) c_196
              refine lv_aload_n hx hb dX12_start_68 rfl (lv_at hl 1 rfl) ?_
              refine h_getr (ci := 12) (C := RX12) (F := TX12) (N := 86) hx hb hts in12 hown hK hH (by decide) (rfl : kd 36 = 12) (by decide) rfl 38 (by decide) wd7 (fun _ h9 => h9) (by decide) rfl (t := 401) (hR 36 38 rfl) (by decide) dX12_start_69 ?_
              refine lv_iload_n hx hb dX12_start_72 rfl (lv_at hl 0 rfl) ?_
              refine lv_iconst (v := (-1)) hx hb dX12_start_73 (by decide) ?_
              have hO_252 := okp hO_j1 (n := 401) (k := (f.toInt).toNat) (v := (-1)) (show (-1 : Int) ≤ ((-1) : Int32).toInt ∧ ((-1) : Int32).toInt ≤ 5 from ⟨by decide, by decide⟩)
              refine h_iast hx hb hK hH hS (by decide) (rfl : kd 401 = 13) (s_vin (N := 24) (rfl : f.toInt = _) (rfl : ln 401 = 24) (by omega) (by omega)) dX12_start_74 (fun H locs hH hS => ?_)
              rw [s_cl (show f.toInt = f.toInt by omega)] at hH
              obtain ⟨z_253, ez_253, hz_253⟩ := s_add (rfl : f.toInt = _) (show (1 : Int32).toInt = 1 from rfl) (by omega) (by omega)
              refine lv_iinc (v := z_253) (lv' := [(2, .int z_253), (0, .ref (g 36)), (1, .int x)]) hx hb dX12_start_75 hl (k := 0) rfl ez_253 (by decide) rfl (fun ls hl => ?_)
              refine lv_goto (tgt := 60) hx hb dX12_start_78 (by decide) ?_
              exact ih_lp_194 z_253 _ _ _ ls (by omega) (by omega) (by omega) hO_252 (fun a b ha => ((up2_o _ _ (by omega)).trans (hfr_j1 a b (by omega)))) (lv_sub hl [0, 1, 2] rfl) hH hS
        have hl_254 : (0 : Int32).toInt = 0 := rfl
        exact lp_194 _ 0 _ _ _ ls (Nat.lt_succ_self _) (by omega) (by omega) hO_193 (fun a b ha => rfl) (lv_sub hl [0, 1, 2] rfl) hH hS
      · skip
        have h_255 := s_ne (rfl : r_180.toInt = _) (show (0 : Int32).toInt = 0 from rfl) c_187
        refine lv_iconst (v := 0) hx hb dX12_start_31 (by decide) ?_
        have hV_256 : MI im_182 d := (MI_off (i := i) hMI hb76 ((hfr_183 36 76 (by omega)).trans (hfr_5 36 76 (by omega))) (funext fun b9 => ((hfr_183 427 b9 (by omega)).trans (hfr_5 427 b9 (by omega)))))
        have hp_257 : (im_182 36 76).toInt = ((i 36 76) : Int32).toInt := congrArg Int32.toInt (((hfr_183 36 76 (by omega)).trans (hfr_5 36 76 (by omega))))
        have hV_258 : ((x.toInt < 1 ∨ 3 < x.toInt) ∧ (im_182 36 76).toInt = 0) ∨ ((1 ≤ x.toInt ∧ x.toInt ≤ 3) ∧ mrest im_182 = murem i 0 ∧ ((0 < murem i 0 ∧ (im_182 36 76).toInt = 1) ∨ (murem i 0 ≤ 0 ∧ (im_182 36 76).toInt = 0))) := (Or.inl ⟨by omega, by omega⟩)
        have hp_259 : (im_182 36 81).toInt = ((i 36 81) : Int32).toInt := congrArg Int32.toInt (((hfr_183 36 81 (by omega)).trans (hfr_5 36 81 (by omega))))
        have hV_260 : ((im_182 36 81).toInt ≤ (i 36 81).toInt + 2) := (by omega)
        exact sj_zret hx hb hr hlocks rfl hS im_182 ⟨hO_184, (fun a b ha => ((hfr_183 a b (by omega)).trans (hfr_5 a b (by omega)))), hV_256, hV_258, hV_260⟩ hH (sj_Knil hK) (Nat.le_of_ble_eq_true rfl) (Nat.le_of_ble_eq_true rfl) dX12_start_32
