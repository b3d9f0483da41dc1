/-- what the text says of tags -/
def mTx (i : Nat → Nat → Int32) : List Int := tgL (i 379) 0 (i 36 2).toInt.toNat
def mTk (i : Nat → Nat → Int32) : Prop := (i 36 2).toInt ≤ 40 ∧ (sqz (mTx i) = [] ∨ mr (tb 0) (mTx i) true [] [] ≠ none)
theorem mTk_v {i : Nat → Nat → Int32} {z v : Int} (e : z = (i 36 2).toInt) (h1 : 40 < z → v = -1) (h2 : z ≤ 40 → sqz (tgL (i 379) 0 z.toNat) = [] → v = 1) (h3 : z ≤ 40 → sqz (tgL (i 379) 0 z.toNat) ≠ [] → ((mr (tb 0) (tgL (i 379) 0 z.toNat) true [] [] = none → v = -1) ∧ (∀ b : Bool, mr (tb 0) (tgL (i 379) 0 z.toNat) true [] [] = some b → v = (if b then 1 else 0)))) : (0 ≤ v ∧ mTk i) ∨ (v < 0 ∧ ¬ mTk i) := by
  subst e
  by_cases q : 40 < (i 36 2).toInt
  · exact Or.inr ⟨by rw [h1 q]; decide, fun h => by have := h.1; omega⟩
  · by_cases q2 : sqz (tgL (i 379) 0 (i 36 2).toInt.toNat) = []
    · exact Or.inl ⟨by rw [h2 (by omega) q2]; decide, by omega, Or.inl q2⟩
    · obtain ⟨g1, g2⟩ := h3 (by omega) q2
      cases hb : mr (tb 0) (tgL (i 379) 0 (i 36 2).toInt.toNat) true [] [] with
      | none => exact Or.inr ⟨by rw [g1 hb]; decide, fun h => h.2.elim (fun a => q2 a) (fun a => a hb)⟩
      | some b => exact Or.inl ⟨by rw [g2 b hb]; cases b <;> decide, by omega, Or.inr (fun a => by rw [show mTx i = tgL (i 379) 0 (i 36 2).toInt.toNat from rfl, hb] at a; exact absurd a (by simp))⟩
theorem tgLM_new {i u : Nat → Nat → Int32} {x : Int} (h0 : 0 ≤ x) (hz : 0 ≤ (i 36 2).toInt) (h17 : (u 417 x.toNat).toInt = (i 36 2).toInt) (hI : ∀ k : Nat, (k : Int) < (i 36 2).toInt → (u 416 ((40 * x).toNat + k)).toInt = (i 379 k).toInt) : tgLM u x.toNat = mTx i := by
  unfold tgLM mTx
  rw [h17]
  exact tgL_ext _ _ _ (fun j hj => by
    have h9 := hI j (by omega)
    rw [show 40 * x.toNat + j = (40 * x).toNat + j by omega, h9, Nat.zero_add])
theorem tgLM_old {i u : Nat → Nat → Int32} {x : Int} (h0 : 0 ≤ x) (hb : ∀ k, (i 417 k).toInt ≤ 40) (h17 : ∀ k : Nat, k ≠ x.toNat → u 417 k = i 417 k) (hU : ∀ k : Nat, ((k : Int) < 40 * x ∨ 40 * x + 40 ≤ (k : Int)) → u 416 k = i 416 k) (h : Nat) (hh : h ≠ x.toNat) : tgLM u h = tgLM i h := by
  unfold tgLM
  rw [h17 h hh]
  have h8 := hb h
  exact tgL_ext _ _ _ (fun j hj => by rw [hU (40 * h + j) (by omega)])
/-- a hook is kept, or not -/
def hkM (i u : Nat → Nat → Int32) (x y : Int) : Prop := (¬ (mTk i ∧ (0 ≤ y ∧ y < 8) ∧ (i 36 67).toInt < 8) ∧ u 36 67 = i 36 67 ∧ u 416 = i 416 ∧ u 417 = i 417 ∧ u 420 = i 420) ∨ ((mTk i ∧ (0 ≤ y ∧ y < 8) ∧ (i 36 67).toInt < 8) ∧ (u 36 67).toInt = (i 36 67).toInt + 1 ∧ tgLM u (i 36 67).toInt.toNat = mTx i ∧ (u 420 (i 36 67).toInt.toNat).toInt = x ∧ ∀ h : Nat, h ≠ (i 36 67).toInt.toNat → tgLM u h = tgLM i h ∧ u 420 h = i 420 h)
/-- a filter is kept, or not -/
def ftM (i u : Nat → Nat → Int32) : Prop := (¬ mTk i ∧ u 416 = i 416 ∧ u 417 = i 417) ∨ (mTk i ∧ tgLM u 8 = mTx i ∧ ∀ h : Nat, h ≠ 8 → tgLM u h = tgLM i h)
/-- a run begins -/
def mxG (i u : Nat → Nat → Int32) : Prop := (mwrF u = mwrF i ∧ mcw u = mcw i ∧ mcM u = mcM i) ∧ u 36 33 = i 36 33
theorem mxG_of {i u : Nat → Nat → Int32} (e : ldE i u) (e33 : u 36 33 = i 36 33) (e67 : u 36 67 = i 36 67) (e4 : u 400 = i 400) (e0 : u 420 = i 420) (e6 : u 416 = i 416) (e7 : u 417 = i 417) : mxG i u := by
  have h1 : mdP u = mdP i := funext fun b => funext fun c => funext fun h => by unfold mdP; rw [e4, mdue_fr e67 e0 e6 e7]
  have h2 : mcs u = mcs i := funext fun c => mcs_ld e c
  exact ⟨⟨funext fun c => funext fun n => by unfold mwrF; rw [h1, h2], mcw_fr e4 e6 e7, funext fun c => by unfold mcM; rw [h1, h2]⟩, e33⟩
theorem murem_g {i u : Nat → Nat → Int32} (h : mxG i u) (v : Int) : murem u v = murem i v := by
  have h1 : mcf u = mcf i := funext fun c => by unfold mcf; rw [h.1.2.1, h.1.2.2]
  unfold murem
  rw [h1, h.2]
theorem mst_run {i b s : Nat → Nat → Int32} {d : Nat → Nat → UInt64} (hO : OkI s) (hj : ∀ x : Nat, x < 3 → (i 427 x).toInt < 0) (e1 : mxG b s) (e2 : mxG i b) (h79 : (b 36 79).toInt = 0) (h77 : 1 ≤ (s 36 77).toInt) (e7 : s 427 = i 427) (se0 : (s 36 79).toInt ≤ (b 36 33).toInt) (se1 : skD (mcw b) (b 36 79).toInt (s 36 79).toInt) (se2 : skE (mcw b) (s 36 79).toInt (b 36 33).toInt) : MU s d ∧ mrest s = murem i 0 := by
  have b79 : (0 : Int) ≤ (s 36 79).toInt ∧ (s 36 79).toInt ≤ 24 := hO 36 79
  have hs : ∀ x : Nat, x < 3 → (s 427 x).toInt < 0 := fun x hx => by rw [e7]; exact hj x hx
  refine ⟨⟨⟨h77, by rw [e1.2]; exact se0⟩, by rw [e1.1.2.1, e1.2]; exact se2, fun x hx _ => hs x hx, fun x hx q => ?_⟩, ?_⟩
  · have := hs x hx
    have q1 := q.1
    omega
  · have a0 := mw1_or hO 0
    have a1 := mw1_or hO 1
    have a2 := mw1_or hO 2
    have s0 := hs 0 (by omega)
    have s1 := hs 1 (by omega)
    have s2 := hs 2 (by omega)
    have hr : mrest s = murem s (s 36 79).toInt + mw1 s 0 + mw1 s 1 + mw1 s 2 := rfl
    rw [h79] at se1
    have e4 := mur_sk (i := b) (u := 0) (by omega) (s 36 79).toInt.toNat (by omega) (by rw [show (0 : Int) + ((s 36 79).toInt.toNat : Int) = (s 36 79).toInt by omega]; exact se1)
    rw [show (0 : Int) + ((s 36 79).toInt.toNat : Int) = (s 36 79).toInt by omega] at e4
    rw [murem_g e1, e4, murem_g e2] at hr
    omega
theorem MI_off {i u : Nat → Nat → Int32} {d d' : Nat → Nat → UInt64} (h : MI i d) (h0 : (i 36 76).toInt = 0) (e : u 36 76 = i 36 76) (e7 : u 427 = i 427) : MI u d' := by
  rcases h with ⟨h1, h2⟩ | ⟨h1, _⟩
  · exact Or.inl ⟨by rw [e]; exact h1, by rw [e7]; exact h2⟩
  · omega
theorem dX12_read_7 : decode cX12_read 7 = .ok (.iconst 0, 1) := by decide +kernel
theorem dX12_read_8 : decode cX12_read 8 = .ok (.ireturn, 1) := by decide +kernel
theorem dX12_define_7 : decode cX12_define 7 = .ok (.iconst 0, 1) := by decide +kernel
theorem dX12_define_8 : decode cX12_define 8 = .ok (.ireturn, 1) := by decide +kernel
theorem dX12_hook_0 : decode cX12_hook 0 = .ok (.aload_n 0, 1) := by decide +kernel
theorem dX12_hook_1 : decode cX12_hook 1 = .ok (.invokevirtual 174, 3) := by decide +kernel
theorem dX12_hook_4 : decode cX12_hook 4 = .ok (.ifCond .eq 5, 3) := by decide +kernel
theorem dX12_hook_7 : decode cX12_hook 7 = .ok (.iconst 0, 1) := by decide +kernel
theorem dX12_hook_8 : decode cX12_hook 8 = .ok (.ireturn, 1) := by decide +kernel
theorem dX12_filter_0 : decode cX12_filter 0 = .ok (.aload_n 0, 1) := by decide +kernel
theorem dX12_filter_1 : decode cX12_filter 1 = .ok (.invokevirtual 174, 3) := by decide +kernel
theorem dX12_filter_4 : decode cX12_filter 4 = .ok (.ifCond .eq 5, 3) := by decide +kernel
theorem dX12_filter_7 : decode cX12_filter 7 = .ok (.iconst 0, 1) := by decide +kernel
theorem dX12_filter_8 : decode cX12_filter 8 = .ok (.ireturn, 1) := by decide +kernel
theorem dX12_start_0 : decode cX12_start 0 = .ok (.aload_n 0, 1) := by decide +kernel
theorem dX12_start_1 : decode cX12_start 1 = .ok (.invokevirtual 174, 3) := by decide +kernel
theorem dX12_start_4 : decode cX12_start 4 = .ok (.ifCond .eq 5, 3) := by decide +kernel
theorem dX12_start_7 : decode cX12_start 7 = .ok (.iconst 0, 1) := by decide +kernel
theorem dX12_start_8 : decode cX12_start 8 = .ok (.ireturn, 1) := by decide +kernel
theorem dX12_hook_9 : decode cX12_hook 9 = .ok (.aload_n 0, 1) := by decide +kernel
theorem dX12_hook_10 : decode cX12_hook 10 = .ok (.aload_n 0, 1) := by decide +kernel
theorem dX12_hook_11 : decode cX12_hook 11 = .ok (.getfield 12, 3) := by decide +kernel
theorem dX12_hook_14 : decode cX12_hook 14 = .ok (.iconst 0, 1) := by decide +kernel
theorem dX12_hook_15 : decode cX12_hook 15 = .ok (.aload_n 0, 1) := by decide +kernel
theorem dX12_hook_16 : decode cX12_hook 16 = .ok (.getfield 7, 3) := by decide +kernel
theorem dX12_hook_19 : decode cX12_hook 19 = .ok (.iconst 0, 1) := by decide +kernel
theorem dX12_hook_20 : decode cX12_hook 20 = .ok (.invokevirtual 400, 3) := by decide +kernel
theorem dX12_hook_23 : decode cX12_hook 23 = .ok (.ifCond .lt 17, 3) := by decide +kernel
theorem dX12_hook_40 : decode cX12_hook 40 = .ok (.iconst 0, 1) := by decide +kernel
theorem dX12_hook_41 : decode cX12_hook 41 = .ok (.istore_n 3, 1) := by decide +kernel
theorem dX12_hook_42 : decode cX12_hook 42 = .ok (.aload_n 0, 1) := by decide +kernel
theorem dX12_hook_43 : decode cX12_hook 43 = .ok (.iload_n 3, 1) := by decide +kernel
theorem dX12_hook_44 : decode cX12_hook 44 = .ok (.ifCond .ne 7, 3) := by decide +kernel
theorem dX12_hook_47 : decode cX12_hook 47 = .ok (.iconst 2, 1) := by decide +kernel
theorem dX12_hook_48 : decode cX12_hook 48 = .ok (.goto 17, 3) := by decide +kernel
theorem dX12_hook_65 : decode cX12_hook 65 = .ok (.putfield 1, 3) := by decide +kernel
theorem dX12_hook_68 : decode cX12_hook 68 = .ok (.aload_n 0, 1) := by decide +kernel
theorem dX12_hook_69 : decode cX12_hook 69 = .ok (.getfield 1, 3) := by decide +kernel
theorem dX12_hook_72 : decode cX12_hook 72 = .ok (.ifCond .ne 11, 3) := by decide +kernel
theorem dX12_hook_83 : decode cX12_hook 83 = .ok (.aload_n 0, 1) := by decide +kernel
theorem dX12_hook_84 : decode cX12_hook 84 = .ok (.iconst 0, 1) := by decide +kernel
theorem dX12_hook_85 : decode cX12_hook 85 = .ok (.putfield 7, 3) := by decide +kernel
theorem dX12_hook_88 : decode cX12_hook 88 = .ok (.aload_n 0, 1) := by decide +kernel
theorem dX12_hook_89 : decode cX12_hook 89 = .ok (.getfield 1, 3) := by decide +kernel
theorem dX12_hook_92 : decode cX12_hook 92 = .ok (.ifCond .le 5, 3) := by decide +kernel
theorem dX12_hook_95 : decode cX12_hook 95 = .ok (.iconst 0, 1) := by decide +kernel
theorem dX12_hook_96 : decode cX12_hook 96 = .ok (.ireturn, 1) := by decide +kernel
theorem dX12_hook_26 : decode cX12_hook 26 = .ok (.iload_n 2, 1) := by decide +kernel
theorem dX12_hook_27 : decode cX12_hook 27 = .ok (.ifCond .lt 13, 3) := by decide +kernel
theorem dX12_hook_30 : decode cX12_hook 30 = .ok (.iload_n 2, 1) := by decide +kernel
theorem dX12_hook_31 : decode cX12_hook 31 = .ok (.bipush 8, 2) := by decide +kernel
theorem dX12_hook_33 : decode cX12_hook 33 = .ok (.if_icmp .ge 7, 3) := by decide +kernel
theorem dX12_hook_36 : decode cX12_hook 36 = .ok (.iconst 1, 1) := by decide +kernel
theorem dX12_hook_37 : decode cX12_hook 37 = .ok (.goto 4, 3) := by decide +kernel
theorem dX12_hook_51 : decode cX12_hook 51 = .ok (.aload_n 0, 1) := by decide +kernel
theorem dX12_hook_52 : decode cX12_hook 52 = .ok (.getfield 404, 3) := by decide +kernel
theorem dX12_hook_55 : decode cX12_hook 55 = .ok (.bipush 8, 2) := by decide +kernel
theorem dX12_hook_57 : decode cX12_hook 57 = .ok (.if_icmp .ne 7, 3) := by decide +kernel
theorem dX12_hook_64 : decode cX12_hook 64 = .ok (.iconst 0, 1) := by decide +kernel
theorem dX12_hook_75 : decode cX12_hook 75 = .ok (.aload_n 0, 1) := by decide +kernel
theorem dX12_hook_76 : decode cX12_hook 76 = .ok (.aload_n 0, 1) := by decide +kernel
theorem dX12_hook_77 : decode cX12_hook 77 = .ok (.getfield 404, 3) := by decide +kernel
theorem dX12_hook_80 : decode cX12_hook 80 = .ok (.invokevirtual 407, 3) := by decide +kernel
theorem dX12_hook_97 : decode cX12_hook 97 = .ok (.aload_n 0, 1) := by decide +kernel
theorem dX12_hook_98 : decode cX12_hook 98 = .ok (.getfield 411, 3) := by decide +kernel
theorem dX12_hook_101 : decode cX12_hook 101 = .ok (.aload_n 0, 1) := by decide +kernel
theorem dX12_hook_102 : decode cX12_hook 102 = .ok (.getfield 404, 3) := by decide +kernel
theorem dX12_hook_105 : decode cX12_hook 105 = .ok (.iload_n 1, 1) := by decide +kernel
theorem dX12_hook_106 : decode cX12_hook 106 = .ok (.bastore, 1) := by decide +kernel
theorem dX12_hook_107 : decode cX12_hook 107 = .ok (.aload_n 0, 1) := by decide +kernel
theorem dX12_hook_108 : decode cX12_hook 108 = .ok (.getfield 415, 3) := by decide +kernel
theorem dX12_hook_111 : decode cX12_hook 111 = .ok (.aload_n 0, 1) := by decide +kernel
theorem dX12_hook_112 : decode cX12_hook 112 = .ok (.getfield 404, 3) := by decide +kernel
theorem dX12_hook_115 : decode cX12_hook 115 = .ok (.iload_n 2, 1) := by decide +kernel
theorem dX12_hook_116 : decode cX12_hook 116 = .ok (.iastore, 1) := by decide +kernel
theorem dX12_hook_117 : decode cX12_hook 117 = .ok (.aload_n 0, 1) := by decide +kernel
theorem dX12_hook_118 : decode cX12_hook 118 = .ok (.dup, 1) := by decide +kernel
theorem dX12_hook_119 : decode cX12_hook 119 = .ok (.getfield 404, 3) := by decide +kernel
theorem dX12_hook_122 : decode cX12_hook 122 = .ok (.iconst 1, 1) := by decide +kernel
theorem dX12_hook_123 : decode cX12_hook 123 = .ok (.iadd, 1) := by decide +kernel
theorem dX12_hook_124 : decode cX12_hook 124 = .ok (.putfield 404, 3) := by decide +kernel
theorem dX12_hook_127 : decode cX12_hook 127 = .ok (.aload_n 0, 1) := by decide +kernel
theorem dX12_hook_128 : decode cX12_hook 128 = .ok (.getfield 404, 3) := by decide +kernel
theorem dX12_hook_131 : decode cX12_hook 131 = .ok (.iconst 1, 1) := by decide +kernel
theorem dX12_hook_132 : decode cX12_hook 132 = .ok (.isub, 1) := by decide +kernel
theorem dX12_hook_133 : decode cX12_hook 133 = .ok (.ireturn, 1) := by decide +kernel
theorem dX12_hook_60 : decode cX12_hook 60 = .ok (.iconst 3, 1) := by decide +kernel
theorem dX12_hook_61 : decode cX12_hook 61 = .ok (.goto 4, 3) := by decide +kernel
theorem dX12_filter_9 : decode cX12_filter 9 = .ok (.aload_n 0, 1) := by decide +kernel
theorem dX12_filter_10 : decode cX12_filter 10 = .ok (.aload_n 0, 1) := by decide +kernel
theorem dX12_filter_11 : decode cX12_filter 11 = .ok (.aload_n 0, 1) := by decide +kernel
theorem dX12_filter_12 : decode cX12_filter 12 = .ok (.getfield 12, 3) := by decide +kernel
theorem dX12_filter_15 : decode cX12_filter 15 = .ok (.iconst 0, 1) := by decide +kernel
theorem dX12_filter_16 : decode cX12_filter 16 = .ok (.aload_n 0, 1) := by decide +kernel
theorem dX12_filter_17 : decode cX12_filter 17 = .ok (.getfield 7, 3) := by decide +kernel
theorem dX12_filter_20 : decode cX12_filter 20 = .ok (.iconst 0, 1) := by decide +kernel
theorem dX12_filter_21 : decode cX12_filter 21 = .ok (.invokevirtual 400, 3) := by decide +kernel
theorem dX12_filter_24 : decode cX12_filter 24 = .ok (.ifCond .lt 7, 3) := by decide +kernel
theorem dX12_filter_31 : decode cX12_filter 31 = .ok (.iconst 2, 1) := by decide +kernel
theorem dX12_filter_32 : decode cX12_filter 32 = .ok (.putfield 1, 3) := by decide +kernel
theorem dX12_filter_35 : decode cX12_filter 35 = .ok (.aload_n 0, 1) := by decide +kernel
theorem dX12_filter_36 : decode cX12_filter 36 = .ok (.getfield 1, 3) := by decide +kernel
theorem dX12_filter_39 : decode cX12_filter 39 = .ok (.ifCond .ne 9, 3) := by decide +kernel
theorem dX12_filter_48 : decode cX12_filter 48 = .ok (.aload_n 0, 1) := by decide +kernel
theorem dX12_filter_49 : decode cX12_filter 49 = .ok (.iconst 0, 1) := by decide +kernel
theorem dX12_filter_50 : decode cX12_filter 50 = .ok (.putfield 7, 3) := by decide +kernel
theorem dX12_filter_53 : decode cX12_filter 53 = .ok (.aload_n 0, 1) := by decide +kernel
theorem dX12_filter_54 : decode cX12_filter 54 = .ok (.getfield 1, 3) := by decide +kernel
theorem dX12_filter_57 : decode cX12_filter 57 = .ok (.ifCond .le 7, 3) := by decide +kernel
theorem dX12_filter_60 : decode cX12_filter 60 = .ok (.iconst 0, 1) := by decide +kernel
theorem dX12_filter_61 : decode cX12_filter 61 = .ok (.goto 7, 3) := by decide +kernel
theorem dX12_filter_68 : decode cX12_filter 68 = .ok (.ireturn, 1) := by decide +kernel
theorem dX12_filter_27 : decode cX12_filter 27 = .ok (.iconst 0, 1) := by decide +kernel
theorem dX12_filter_28 : decode cX12_filter 28 = .ok (.goto 4, 3) := by decide +kernel
theorem dX12_filter_42 : decode cX12_filter 42 = .ok (.aload_n 0, 1) := by decide +kernel
theorem dX12_filter_43 : decode cX12_filter 43 = .ok (.bipush 8, 2) := by decide +kernel
theorem dX12_filter_45 : decode cX12_filter 45 = .ok (.invokevirtual 407, 3) := by decide +kernel
theorem dX12_filter_64 : decode cX12_filter 64 = .ok (.aload_n 0, 1) := by decide +kernel
theorem dX12_filter_65 : decode cX12_filter 65 = .ok (.invokevirtual 421, 3) := by decide +kernel
theorem dX12_start_9 : decode cX12_start 9 = .ok (.aload_n 0, 1) := by decide +kernel
theorem dX12_start_10 : decode cX12_start 10 = .ok (.iload_n 1, 1) := by decide +kernel
theorem dX12_start_11 : decode cX12_start 11 = .ok (.iconst 1, 1) := by decide +kernel
theorem dX12_start_12 : decode cX12_start 12 = .ok (.if_icmp .lt 8, 3) := by decide +kernel
theorem dX12_start_20 : decode cX12_start 20 = .ok (.iconst 2, 1) := by decide +kernel
theorem dX12_start_21 : decode cX12_start 21 = .ok (.goto 4, 3) := by decide +kernel
theorem dX12_start_25 : decode cX12_start 25 = .ok (.invokevirtual 171, 3) := by decide +kernel
theorem dX12_start_28 : decode cX12_start 28 = .ok (.ifCond .eq 5, 3) := by decide +kernel
theorem dX12_start_33 : decode cX12_start 33 = .ok (.aload_n 0, 1) := by decide +kernel
theorem dX12_start_34 : decode cX12_start 34 = .ok (.iload_n 1, 1) := by decide +kernel
theorem dX12_start_35 : decode cX12_start 35 = .ok (.putfield 507, 3) := by decide +kernel
theorem dX12_start_38 : decode cX12_start 38 = .ok (.aload_n 0, 1) := by decide +kernel
theorem dX12_start_39 : decode cX12_start 39 = .ok (.iconst 0, 1) := by decide +kernel
theorem dX12_start_40 : decode cX12_start 40 = .ok (.putfield 516, 3) := by decide +kernel
theorem dX12_start_43 : decode cX12_start 43 = .ok (.aload_n 0, 1) := by decide +kernel
theorem dX12_start_44 : decode cX12_start 44 = .ok (.iconst 0, 1) := by decide +kernel
theorem dX12_start_45 : decode cX12_start 45 = .ok (.putfield 504, 3) := by decide +kernel
theorem dX12_start_48 : decode cX12_start 48 = .ok (.aload_n 0, 1) := by decide +kernel
theorem dX12_start_49 : decode cX12_start 49 = .ok (.iconst 0, 1) := by decide +kernel
theorem dX12_start_50 : decode cX12_start 50 = .ok (.putfield 510, 3) := by decide +kernel
theorem dX12_start_53 : decode cX12_start 53 = .ok (.aload_n 0, 1) := by decide +kernel
theorem dX12_start_54 : decode cX12_start 54 = .ok (.iconst 0, 1) := by decide +kernel
theorem dX12_start_55 : decode cX12_start 55 = .ok (.putfield 460, 3) := by decide +kernel
theorem dX12_start_58 : decode cX12_start 58 = .ok (.iconst 0, 1) := by decide +kernel
theorem dX12_start_59 : decode cX12_start 59 = .ok (.istore_n 2, 1) := by decide +kernel
theorem dX12_start_60 : decode cX12_start 60 = .ok (.iload_n 2, 1) := by decide +kernel
theorem dX12_start_61 : decode cX12_start 61 = .ok (.aload_n 0, 1) := by decide +kernel
theorem dX12_start_62 : decode cX12_start 62 = .ok (.getfield 165, 3) := by decide +kernel
theorem dX12_start_65 : decode cX12_start 65 = .ok (.if_icmp .ge 16, 3) := by decide +kernel
theorem dX12_start_81 : decode cX12_start 81 = .ok (.aload_n 0, 1) := by decide +kernel
theorem dX12_start_82 : decode cX12_start 82 = .ok (.iconst 1, 1) := by decide +kernel
theorem dX12_start_83 : decode cX12_start 83 = .ok (.putfield 168, 3) := by decide +kernel
theorem dX12_start_86 : decode cX12_start 86 = .ok (.aload_n 0, 1) := by decide +kernel
theorem dX12_start_87 : decode cX12_start 87 = .ok (.iconst 0, 1) := by decide +kernel
theorem dX12_start_88 : decode cX12_start 88 = .ok (.aload_n 0, 1) := by decide +kernel
theorem dX12_start_89 : decode cX12_start 89 = .ok (.invokevirtual 421, 3) := by decide +kernel
theorem dX12_start_92 : decode cX12_start 92 = .ok (.iload_n 1, 1) := by decide +kernel
theorem dX12_start_93 : decode cX12_start 93 = .ok (.iconst 0, 1) := by decide +kernel
theorem dX12_start_94 : decode cX12_start 94 = .ok (.invokevirtual 513, 3) := by decide +kernel
theorem dX12_start_97 : decode cX12_start 97 = .ok (.aload_n 0, 1) := by decide +kernel
theorem dX12_start_98 : decode cX12_start 98 = .ok (.invokevirtual 421, 3) := by decide +kernel
theorem dX12_start_101 : decode cX12_start 101 = .ok (.istore_n 2, 1) := by decide +kernel
theorem dX12_start_102 : decode cX12_start 102 = .ok (.aload_n 0, 1) := by decide +kernel
theorem dX12_start_103 : decode cX12_start 103 = .ok (.invokevirtual 519, 3) := by decide +kernel
theorem dX12_start_106 : decode cX12_start 106 = .ok (.aload_n 0, 1) := by decide +kernel
theorem dX12_start_107 : decode cX12_start 107 = .ok (.invokevirtual 522, 3) := by decide +kernel
theorem dX12_start_110 : decode cX12_start 110 = .ok (.iload_n 2, 1) := by decide +kernel
theorem dX12_start_111 : decode cX12_start 111 = .ok (.ireturn, 1) := by decide +kernel
theorem dX12_start_68 : decode cX12_start 68 = .ok (.aload_n 0, 1) := by decide +kernel
theorem dX12_start_69 : decode cX12_start 69 = .ok (.getfield 207, 3) := by decide +kernel
theorem dX12_start_72 : decode cX12_start 72 = .ok (.iload_n 2, 1) := by decide +kernel
theorem dX12_start_73 : decode cX12_start 73 = .ok (.iconst (-1), 1) := by decide +kernel
theorem dX12_start_74 : decode cX12_start 74 = .ok (.iastore, 1) := by decide +kernel
theorem dX12_start_75 : decode cX12_start 75 = .ok (.iinc 2 1, 3) := by decide +kernel
theorem dX12_start_78 : decode cX12_start 78 = .ok (.goto (-18), 3) := by decide +kernel
theorem dX12_start_31 : decode cX12_start 31 = .ok (.iconst 0, 1) := by decide +kernel
theorem dX12_start_32 : decode cX12_start 32 = .ok (.ireturn, 1) := by decide +kernel
theorem dX12_start_15 : decode cX12_start 15 = .ok (.iload_n 1, 1) := by decide +kernel
theorem dX12_start_16 : decode cX12_start 16 = .ok (.iconst 3, 1) := by decide +kernel
theorem dX12_start_17 : decode cX12_start 17 = .ok (.if_icmp .le 7, 3) := by decide +kernel
theorem dX12_start_24 : decode cX12_start 24 = .ok (.iconst 0, 1) := by decide +kernel
theorem gX12_hook_X12_busy : GoodIn wsX12_hook (wsV RX12 174 RX12 yX12_busy wsX12_busy) := goodIn_app (goodIn_sub (List.forall_mem_cons.mpr ⟨(List.mem_cons_of_mem _ (List.mem_append_left _ (List.mem_append_left _ lm6))), List.forall_mem_cons.mpr ⟨(List.mem_cons_of_mem _ (List.mem_append_left _ (List.mem_append_left _ lm7))), List.forall_mem_cons.mpr ⟨(List.mem_cons_of_mem _ (List.mem_append_left _ (List.mem_append_left _ lm8))), List.forall_mem_cons.mpr ⟨(List.mem_cons_of_mem _ (List.mem_append_left _ (List.mem_append_left _ lm9))), (fun _ h => absurd h List.not_mem_nil)⟩⟩⟩⟩) (by decide +kernel)) (goodIn_sub (by unfold wsX12_busy; exact List.forall_mem_cons.mpr ⟨(List.mem_cons_of_mem _ (List.mem_append_left _ (List.mem_append_left _ lm10))), List.forall_mem_append.mpr ⟨List.forall_mem_cons.mpr ⟨(List.mem_cons_of_mem _ (List.mem_append_left _ (List.mem_append_left _ lm11))), List.forall_mem_cons.mpr ⟨(List.mem_cons_of_mem _ (List.mem_append_left _ (List.mem_append_left _ lm12))), List.forall_mem_cons.mpr ⟨(List.mem_cons_of_mem _ (List.mem_append_left _ (List.mem_append_left _ lm13))), List.forall_mem_cons.mpr ⟨(List.mem_cons_of_mem _ (List.mem_append_left _ (List.mem_append_left _ lm14))), List.forall_mem_cons.mpr ⟨(List.mem_cons_of_mem _ (List.mem_append_left _ (List.mem_append_left _ lm9))), List.forall_mem_cons.mpr ⟨(List.mem_cons_of_mem _ (List.mem_append_left _ (List.mem_append_left _ lm15))), List.forall_mem_cons.mpr ⟨(List.mem_cons_of_mem _ (List.mem_append_left _ (List.mem_append_left _ lm3))), (fun _ h => absurd h List.not_mem_nil)⟩⟩⟩⟩⟩⟩⟩, (fun _ h => (List.mem_cons_of_mem _ (List.mem_append_right _ h)))⟩⟩) gw_X12_busy)
theorem gX12_filter_X12_busy : GoodIn wsX12_filter (wsV RX12 174 RX12 yX12_busy wsX12_busy) := goodIn_app (goodIn_sub (List.forall_mem_cons.mpr ⟨(List.mem_cons_of_mem _ (List.mem_append_left _ (List.mem_append_left _ lm3))), List.forall_mem_cons.mpr ⟨(List.mem_cons_of_mem _ (List.mem_append_left _ (List.mem_append_left _ lm4))), List.forall_mem_cons.mpr ⟨(List.mem_cons_of_mem _ (List.mem_append_left _ (List.mem_append_left _ lm5))), List.forall_mem_cons.mpr ⟨(List.mem_cons_of_mem _ (List.mem_append_left _ (List.mem_append_left _ lm6))), (fun _ h => absurd h List.not_mem_nil)⟩⟩⟩⟩) (by decide +kernel)) (goodIn_sub (by unfold wsX12_busy; exact List.forall_mem_cons.mpr ⟨(List.mem_cons_of_mem _ (List.mem_append_left _ (List.mem_append_left _ lm7))), List.forall_mem_append.mpr ⟨List.forall_mem_cons.mpr ⟨(List.mem_cons_of_mem _ (List.mem_append_left _ (List.mem_append_left _ lm8))), List.forall_mem_cons.mpr ⟨(List.mem_cons_of_mem _ (List.mem_append_left _ (List.mem_append_left _ lm9))), List.forall_mem_cons.mpr ⟨(List.mem_cons_of_mem _ (List.mem_append_left _ (List.mem_append_left _ lm10))), List.forall_mem_cons.mpr ⟨(List.mem_cons_of_mem _ (List.mem_append_left _ (List.mem_append_left _ lm11))), List.forall_mem_cons.mpr ⟨(List.mem_cons_of_mem _ (List.mem_append_left _ (List.mem_append_left _ lm6))), List.forall_mem_cons.mpr ⟨(List.mem_cons_of_mem _ (List.mem_append_left _ (List.mem_append_left _ lm12))), List.forall_mem_cons.mpr ⟨(List.mem_cons_of_mem _ (List.mem_append_left _ (List.mem_append_left _ lm2))), (fun _ h => absurd h List.not_mem_nil)⟩⟩⟩⟩⟩⟩⟩, (fun _ h => (List.mem_cons_of_mem _ (List.mem_append_right _ h)))⟩⟩) gw_X12_busy)
theorem gX12_start_X12_busy : GoodIn wsX12_start (wsV RX12 174 RX12 yX12_busy wsX12_busy) := goodIn_app (goodIn_sub (List.forall_mem_cons.mpr ⟨(List.mem_cons_of_mem _ (List.mem_append_left _ (List.mem_append_left _ lm8))), List.forall_mem_cons.mpr ⟨(List.mem_cons_of_mem _ (List.mem_append_left _ (List.mem_append_left _ lm9))), List.forall_mem_cons.mpr ⟨(List.mem_cons_of_mem _ (List.mem_append_left _ (List.mem_append_left _ lm10))), List.forall_mem_cons.mpr ⟨(List.mem_cons_of_mem _ (List.mem_append_left _ (List.mem_append_left _ lm11))), (fun _ h => absurd h List.not_mem_nil)⟩⟩⟩⟩) (by decide +kernel)) (goodIn_sub (by unfold wsX12_busy; exact List.forall_mem_cons.mpr ⟨(List.mem_cons_of_mem _ (List.mem_append_left _ (List.mem_append_left _ lm12))), List.forall_mem_append.mpr ⟨List.forall_mem_cons.mpr ⟨(List.mem_cons_of_mem _ (List.mem_append_left _ (List.mem_append_left _ lm7))), List.forall_mem_cons.mpr ⟨(List.mem_cons_of_mem _ (List.mem_append_left _ (List.mem_append_left _ lm13))), List.forall_mem_cons.mpr ⟨(List.mem_cons_of_mem _ (List.mem_append_left _ (List.mem_append_left _ lm14))), List.forall_mem_cons.mpr ⟨(List.mem_cons_of_mem _ (List.mem_append_left _ (List.mem_append_left _ lm15))), List.forall_mem_cons.mpr ⟨(List.mem_cons_of_mem _ (List.mem_append_left _ (List.mem_append_left _ lm11))), List.forall_mem_cons.mpr ⟨(List.mem_cons_of_mem _ (List.mem_append_left _ (List.mem_append_left _ lm16))), List.forall_mem_cons.mpr ⟨(List.mem_cons_of_mem _ (List.mem_append_left _ (List.mem_append_left _ lm17))), (fun _ h => absurd h List.not_mem_nil)⟩⟩⟩⟩⟩⟩⟩, (fun _ h => (List.mem_cons_of_mem _ (List.mem_append_right _ h)))⟩⟩) gw_X12_busy)
theorem gX12_hook_X12_test : GoodIn wsX12_hook (wsV RX12 400 RX12 yX12_test wsX12_test) := goodIn_app (goodIn_sub (List.forall_mem_cons.mpr ⟨(List.mem_cons_of_mem _ (List.mem_append_left _ (List.mem_append_left _ lm16))), List.forall_mem_cons.mpr ⟨(List.mem_cons_of_mem _ (List.mem_append_left _ (List.mem_append_left _ lm17))), List.forall_mem_cons.mpr ⟨(List.mem_cons_of_mem _ (List.mem_append_left _ (List.mem_append_left _ lm18))), List.forall_mem_cons.mpr ⟨(List.mem_cons_of_mem _ (List.mem_append_left _ (List.mem_append_left _ lm9))), (fun _ h => absurd h List.not_mem_nil)⟩⟩⟩⟩) (by decide +kernel)) (goodIn_sub (by unfold wsX12_test; exact List.forall_mem_cons.mpr ⟨(List.mem_cons_of_mem _ (List.mem_append_left _ (List.mem_append_left _ lm19))), List.forall_mem_append.mpr ⟨List.forall_mem_cons.mpr ⟨(List.mem_cons_of_mem _ (List.mem_append_left _ (List.mem_append_left _ lm20))), List.forall_mem_cons.mpr ⟨(List.mem_cons_of_mem _ (List.mem_append_left _ (List.mem_append_left _ lm21))), List.forall_mem_cons.mpr ⟨(List.mem_cons_of_mem _ (List.mem_append_left _ (List.mem_append_left _ lm22))), List.forall_mem_cons.mpr ⟨(List.mem_cons_of_mem _ (List.mem_append_left _ (List.mem_append_left _ lm23))), List.forall_mem_cons.mpr ⟨(List.mem_cons_of_mem _ (List.mem_append_left _ (List.mem_append_right _ (List.mem_append_left _ lm0)))), List.forall_mem_cons.mpr ⟨(List.mem_cons_of_mem _ (List.mem_append_left _ (List.mem_append_right _ (List.mem_append_left _ lm1)))), List.forall_mem_cons.mpr ⟨(List.mem_cons_of_mem _ (List.mem_append_left _ (List.mem_append_right _ (List.mem_append_left _ lm2)))), List.forall_mem_cons.mpr ⟨(List.mem_cons_of_mem _ (List.mem_append_left _ (List.mem_append_left _ lm9))), List.forall_mem_cons.mpr ⟨(List.mem_cons_of_mem _ (List.mem_append_left _ (List.mem_append_right _ (List.mem_append_left _ lm3)))), List.forall_mem_cons.mpr ⟨(List.mem_cons_of_mem _ (List.mem_append_left _ (List.mem_append_right _ (List.mem_append_left _ lm4)))), List.forall_mem_cons.mpr ⟨(List.mem_cons_of_mem _ (List.mem_append_left _ (List.mem_append_right _ (List.mem_append_left _ lm5)))), List.forall_mem_cons.mpr ⟨(List.mem_cons_of_mem _ (List.mem_append_left _ (List.mem_append_right _ (List.mem_append_left _ lm6)))), List.forall_mem_cons.mpr ⟨(List.mem_cons_of_mem _ (List.mem_append_left _ (List.mem_append_right _ (List.mem_append_left _ lm7)))), List.forall_mem_cons.mpr ⟨(List.mem_cons_of_mem _ (List.mem_append_left _ (List.mem_append_right _ (List.mem_append_left _ lm8)))), List.forall_mem_cons.mpr ⟨(List.mem_cons_of_mem _ (List.mem_append_left _ (List.mem_append_right _ (List.mem_append_left _ lm9)))), List.forall_mem_cons.mpr ⟨(List.mem_cons_of_mem _ (List.mem_append_left _ (List.mem_append_right _ (List.mem_append_left _ lm10)))), List.forall_mem_cons.mpr ⟨(List.mem_cons_of_mem _ (List.mem_append_left _ (List.mem_append_right _ (List.mem_append_left _ lm11)))), List.forall_mem_cons.mpr ⟨(List.mem_cons_of_mem _ (List.mem_append_left _ (List.mem_append_right _ (List.mem_append_left _ lm12)))), List.forall_mem_cons.mpr ⟨(List.mem_cons_of_mem _ (List.mem_append_left _ (List.mem_append_right _ (List.mem_append_left _ lm13)))), List.forall_mem_cons.mpr ⟨(List.mem_cons_of_mem _ (List.mem_append_left _ (List.mem_append_right _ (List.mem_append_left _ lm14)))), List.forall_mem_cons.mpr ⟨(List.mem_cons_of_mem _ (List.mem_append_left _ (List.mem_append_right _ (List.mem_append_left _ lm15)))), List.forall_mem_cons.mpr ⟨(List.mem_cons_of_mem _ (List.mem_append_left _ (List.mem_append_right _ (List.mem_append_left _ lm16)))), List.forall_mem_cons.mpr ⟨(List.mem_cons_of_mem _ (List.mem_append_left _ (List.mem_append_right _ (List.mem_append_left _ lm17)))), List.forall_mem_cons.mpr ⟨(List.mem_cons_of_mem _ (List.mem_append_left _ (List.mem_append_right _ (List.mem_append_left _ lm18)))), (fun _ h => absurd h List.not_mem_nil)⟩⟩⟩⟩⟩⟩⟩⟩⟩⟩⟩⟩⟩⟩⟩⟩⟩⟩⟩⟩⟩⟩⟩⟩, (fun _ h => (List.mem_cons_of_mem _ (List.mem_append_right _ h)))⟩⟩) gw_X12_test)
theorem gw_X12_keep : wsX12_keep.all goodWord = true := by decide +kernel
theorem gX12_hook_X12_keep : GoodIn wsX12_hook (wsV RX12 407 RX12 yX12_keep wsX12_keep) := goodIn_app (goodIn_sub (List.forall_mem_cons.mpr ⟨(List.mem_cons_of_mem _ (List.mem_append_left _ (List.mem_append_right _ (List.mem_append_left _ lm19)))), List.forall_mem_cons.mpr ⟨(List.mem_cons_of_mem _ (List.mem_append_left _ (List.mem_append_right _ (List.mem_append_left _ lm20)))), List.forall_mem_cons.mpr ⟨(List.mem_cons_of_mem _ (List.mem_append_left _ (List.mem_append_right _ (List.mem_append_left _ lm21)))), List.forall_mem_cons.mpr ⟨(List.mem_cons_of_mem _ (List.mem_append_left _ (List.mem_append_left _ lm9))), (fun _ h => absurd h List.not_mem_nil)⟩⟩⟩⟩) (by decide +kernel)) (goodIn_sub (by unfold wsX12_keep; exact List.forall_mem_cons.mpr ⟨(List.mem_cons_of_mem _ (List.mem_append_left _ (List.mem_append_right _ (List.mem_append_left _ lm22)))), List.forall_mem_append.mpr ⟨List.forall_mem_cons.mpr ⟨(List.mem_cons_of_mem _ (List.mem_append_left _ (List.mem_append_right _ (List.mem_append_left _ lm23)))), List.forall_mem_cons.mpr ⟨(List.mem_cons_of_mem _ (List.mem_append_left _ (List.mem_append_left _ lm1))), List.forall_mem_cons.mpr ⟨(List.mem_cons_of_mem _ (List.mem_append_left _ (List.mem_append_right _ (List.mem_append_right _ lm0)))), List.forall_mem_cons.mpr ⟨(List.mem_cons_of_mem _ (List.mem_append_left _ (List.mem_append_left _ lm0))), (fun _ h => absurd h List.not_mem_nil)⟩⟩⟩⟩, (fun _ h => (List.mem_cons_of_mem _ (List.mem_append_right _ h)))⟩⟩) gw_X12_keep)
theorem gX12_filter_X12_test : GoodIn wsX12_filter (wsV RX12 400 RX12 yX12_test wsX12_test) := goodIn_app (goodIn_sub (List.forall_mem_cons.mpr ⟨(List.mem_cons_of_mem _ (List.mem_append_left _ (List.mem_append_left _ lm13))), List.forall_mem_cons.mpr ⟨(List.mem_cons_of_mem _ (List.mem_append_left _ (List.mem_append_left _ lm14))), List.forall_mem_cons.mpr ⟨(List.mem_cons_of_mem _ (List.mem_append_left _ (List.mem_append_left _ lm15))), List.forall_mem_cons.mpr ⟨(List.mem_cons_of_mem _ (List.mem_append_left _ (List.mem_append_left _ lm6))), (fun _ h => absurd h List.not_mem_nil)⟩⟩⟩⟩) (by decide +kernel)) (goodIn_sub (by unfold wsX12_test; exact List.forall_mem_cons.mpr ⟨(List.mem_cons_of_mem _ (List.mem_append_left _ (List.mem_append_left _ lm16))), List.forall_mem_append.mpr ⟨List.forall_mem_cons.mpr ⟨(List.mem_cons_of_mem _ (List.mem_append_left _ (List.mem_append_left _ lm17))), List.forall_mem_cons.mpr ⟨(List.mem_cons_of_mem _ (List.mem_append_left _ (List.mem_append_left _ lm18))), List.forall_mem_cons.mpr ⟨(List.mem_cons_of_mem _ (List.mem_append_left _ (List.mem_append_left _ lm19))), List.forall_mem_cons.mpr ⟨(List.mem_cons_of_mem _ (List.mem_append_left _ (List.mem_append_left _ lm20))), List.forall_mem_cons.mpr ⟨(List.mem_cons_of_mem _ (List.mem_append_left _ (List.mem_append_left _ lm21))), List.forall_mem_cons.mpr ⟨(List.mem_cons_of_mem _ (List.mem_append_left _ (List.mem_append_left _ lm22))), List.forall_mem_cons.mpr ⟨(List.mem_cons_of_mem _ (List.mem_append_left _ (List.mem_append_left _ lm23))), List.forall_mem_cons.mpr ⟨(List.mem_cons_of_mem _ (List.mem_append_left _ (List.mem_append_left _ lm6))), List.forall_mem_cons.mpr ⟨(List.mem_cons_of_mem _ (List.mem_append_left _ (List.mem_append_right _ (List.mem_append_left _ lm0)))), List.forall_mem_cons.mpr ⟨(List.mem_cons_of_mem _ (List.mem_append_left _ (List.mem_append_right _ (List.mem_append_left _ lm1)))), List.forall_mem_cons.mpr ⟨(List.mem_cons_of_mem _ (List.mem_append_left _ (List.mem_append_right _ (List.mem_append_left _ lm2)))), List.forall_mem_cons.mpr ⟨(List.mem_cons_of_mem _ (List.mem_append_left _ (List.mem_append_right _ (List.mem_append_left _ lm3)))), List.forall_mem_cons.mpr ⟨(List.mem_cons_of_mem _ (List.mem_append_left _ (List.mem_append_right _ (List.mem_append_left _ lm4)))), List.forall_mem_cons.mpr ⟨(List.mem_cons_of_mem _ (List.mem_append_left _ (List.mem_append_right _ (List.mem_append_left _ lm5)))), List.forall_mem_cons.mpr ⟨(List.mem_cons_of_mem _ (List.mem_append_left _ (List.mem_append_right _ (List.mem_append_left _ lm6)))), List.forall_mem_cons.mpr ⟨(List.mem_cons_of_mem _ (List.mem_append_left _ (List.mem_append_right _ (List.mem_append_left _ lm7)))), List.forall_mem_cons.mpr ⟨(List.mem_cons_of_mem _ (List.mem_append_left _ (List.mem_append_right _ (List.mem_append_left _ lm8)))), List.forall_mem_cons.mpr ⟨(List.mem_cons_of_mem _ (List.mem_append_left _ (List.mem_append_right _ (List.mem_append_left _ lm9)))), List.forall_mem_cons.mpr ⟨(List.mem_cons_of_mem _ (List.mem_append_left _ (List.mem_append_right _ (List.mem_append_left _ lm10)))), List.forall_mem_cons.mpr ⟨(List.mem_cons_of_mem _ (List.mem_append_left _ (List.mem_append_right _ (List.mem_append_left _ lm11)))), List.forall_mem_cons.mpr ⟨(List.mem_cons_of_mem _ (List.mem_append_left _ (List.mem_append_right _ (List.mem_append_left _ lm12)))), List.forall_mem_cons.mpr ⟨(List.mem_cons_of_mem _ (List.mem_append_left _ (List.mem_append_right _ (List.mem_append_left _ lm13)))), List.forall_mem_cons.mpr ⟨(List.mem_cons_of_mem _ (List.mem_append_left _ (List.mem_append_right _ (List.mem_append_left _ lm14)))), List.forall_mem_cons.mpr ⟨(List.mem_cons_of_mem _ (List.mem_append_left _ (List.mem_append_right _ (List.mem_append_left _ lm15)))), (fun _ h => absurd h List.not_mem_nil)⟩⟩⟩⟩⟩⟩⟩⟩⟩⟩⟩⟩⟩⟩⟩⟩⟩⟩⟩⟩⟩⟩⟩⟩, (fun _ h => (List.mem_cons_of_mem _ (List.mem_append_right _ h)))⟩⟩) gw_X12_test)
theorem gX12_filter_X12_keep : GoodIn wsX12_filter (wsV RX12 407 RX12 yX12_keep wsX12_keep) := goodIn_app (goodIn_sub (List.forall_mem_cons.mpr ⟨(List.mem_cons_of_mem _ (List.mem_append_left _ (List.mem_append_right _ (List.mem_append_left _ lm16)))), List.forall_mem_cons.mpr ⟨(List.mem_cons_of_mem _ (List.mem_append_left _ (List.mem_append_right _ (List.mem_append_left _ lm17)))), List.forall_mem_cons.mpr ⟨(List.mem_cons_of_mem _ (List.mem_append_left _ (List.mem_append_right _ (List.mem_append_left _ lm18)))), List.forall_mem_cons.mpr ⟨(List.mem_cons_of_mem _ (List.mem_append_left _ (List.mem_append_left _ lm6))), (fun _ h => absurd h List.not_mem_nil)⟩⟩⟩⟩) (by decide +kernel)) (goodIn_sub (by unfold wsX12_keep; exact List.forall_mem_cons.mpr ⟨(List.mem_cons_of_mem _ (List.mem_append_left _ (List.mem_append_right _ (List.mem_append_left _ lm19)))), List.forall_mem_append.mpr ⟨List.forall_mem_cons.mpr ⟨(List.mem_cons_of_mem _ (List.mem_append_left _ (List.mem_append_right _ (List.mem_append_left _ lm20)))), List.forall_mem_cons.mpr ⟨(List.mem_cons_of_mem _ (List.mem_append_left _ (List.mem_append_left _ lm1))), List.forall_mem_cons.mpr ⟨(List.mem_cons_of_mem _ (List.mem_append_left _ (List.mem_append_right _ (List.mem_append_left _ lm21)))), List.forall_mem_cons.mpr ⟨(List.mem_cons_of_mem _ (List.mem_append_left _ (List.mem_append_left _ lm0))), (fun _ h => absurd h List.not_mem_nil)⟩⟩⟩⟩, (fun _ h => (List.mem_cons_of_mem _ (List.mem_append_right _ h)))⟩⟩) gw_X12_keep)
theorem gw_X12_wanted : wsX12_wanted.all goodWord = true := by decide +kernel
theorem gX12_filter_X12_wanted : GoodIn wsX12_filter (wsV RX12 421 RX12 yX12_wanted wsX12_wanted) := goodIn_app (goodIn_sub (List.forall_mem_cons.mpr ⟨(List.mem_cons_of_mem _ (List.mem_append_left _ (List.mem_append_right _ (List.mem_append_left _ lm22)))), List.forall_mem_cons.mpr ⟨(List.mem_cons_of_mem _ (List.mem_append_left _ (List.mem_append_right _ (List.mem_append_left _ lm23)))), List.forall_mem_cons.mpr ⟨(List.mem_cons_of_mem _ (List.mem_append_left _ (List.mem_append_right _ (List.mem_append_right _ lm0)))), List.forall_mem_cons.mpr ⟨(List.mem_cons_of_mem _ (List.mem_append_left _ (List.mem_append_left _ lm6))), (fun _ h => absurd h List.not_mem_nil)⟩⟩⟩⟩) (by decide +kernel)) (goodIn_sub (by unfold wsX12_wanted; exact List.forall_mem_cons.mpr ⟨(List.mem_cons_of_mem _ (List.mem_append_left _ (List.mem_append_right _ (List.mem_append_right _ lm1)))), List.forall_mem_append.mpr ⟨List.forall_mem_append.mpr ⟨List.forall_mem_cons.mpr ⟨(List.mem_cons_of_mem _ (List.mem_append_left _ (List.mem_append_right _ (List.mem_append_right _ lm2)))), List.forall_mem_cons.mpr ⟨(List.mem_cons_of_mem _ (List.mem_append_left _ (List.mem_append_right _ (List.mem_append_right _ lm3)))), List.forall_mem_cons.mpr ⟨(List.mem_cons_of_mem _ (List.mem_append_left _ (List.mem_append_right _ (List.mem_append_right _ lm4)))), List.forall_mem_cons.mpr ⟨(List.mem_cons_of_mem _ (List.mem_append_left _ (List.mem_append_right _ (List.mem_append_right _ lm5)))), List.forall_mem_cons.mpr ⟨(List.mem_cons_of_mem _ (List.mem_append_left _ (List.mem_append_right _ (List.mem_append_right _ lm6)))), List.forall_mem_cons.mpr ⟨(List.mem_cons_of_mem _ (List.mem_append_left _ (List.mem_append_left _ lm6))), List.forall_mem_cons.mpr ⟨(List.mem_cons_of_mem _ (List.mem_append_left _ (List.mem_append_right _ (List.mem_append_right _ lm7)))), List.forall_mem_cons.mpr ⟨(List.mem_cons_of_mem _ (List.mem_append_left _ (List.mem_append_right _ (List.mem_append_left _ lm21)))), List.forall_mem_cons.mpr ⟨(List.mem_cons_of_mem _ (List.mem_append_left _ (List.mem_append_right _ (List.mem_append_left _ lm20)))), List.forall_mem_cons.mpr ⟨(List.mem_cons_of_mem _ (List.mem_append_left _ (List.mem_append_left _ lm13))), List.forall_mem_cons.mpr ⟨(List.mem_cons_of_mem _ (List.mem_append_left _ (List.mem_append_left _ lm14))), List.forall_mem_cons.mpr ⟨(List.mem_cons_of_mem _ (List.mem_append_left _ (List.mem_append_left _ lm15))), List.forall_mem_cons.mpr ⟨(List.mem_cons_of_mem _ (List.mem_append_left _ (List.mem_append_left _ lm16))), List.forall_mem_cons.mpr ⟨(List.mem_cons_of_mem _ (List.mem_append_left _ (List.mem_append_left _ lm17))), List.forall_mem_cons.mpr ⟨(List.mem_cons_of_mem _ (List.mem_append_left _ (List.mem_append_left _ lm18))), List.forall_mem_cons.mpr ⟨(List.mem_cons_of_mem _ (List.mem_append_left _ (List.mem_append_left _ lm19))), List.forall_mem_cons.mpr ⟨(List.mem_cons_of_mem _ (List.mem_append_left _ (List.mem_append_left _ lm20))), List.forall_mem_cons.mpr ⟨(List.mem_cons_of_mem _ (List.mem_append_left _ (List.mem_append_left _ lm21))), List.forall_mem_cons.mpr ⟨(List.mem_cons_of_mem _ (List.mem_append_left _ (List.mem_append_left _ lm22))), List.forall_mem_cons.mpr ⟨(List.mem_cons_of_mem _ (List.mem_append_left _ (List.mem_append_left _ lm23))), List.forall_mem_cons.mpr ⟨(List.mem_cons_of_mem _ (List.mem_append_left _ (List.mem_append_right _ (List.mem_append_left _ lm0)))), List.forall_mem_cons.mpr ⟨(List.mem_cons_of_mem _ (List.mem_append_left _ (List.mem_append_right _ (List.mem_append_left _ lm1)))), List.forall_mem_cons.mpr ⟨(List.mem_cons_of_mem _ (List.mem_append_left _ (List.mem_append_right _ (List.mem_append_left _ lm2)))), List.forall_mem_cons.mpr ⟨(List.mem_cons_of_mem _ (List.mem_append_left _ (List.mem_append_right _ (List.mem_append_left _ lm3)))), (fun _ h => absurd h List.not_mem_nil)⟩⟩⟩⟩⟩⟩⟩⟩⟩⟩⟩⟩⟩⟩⟩⟩⟩⟩⟩⟩⟩⟩⟩⟩, List.forall_mem_cons.mpr ⟨(List.mem_cons_of_mem _ (List.mem_append_left _ (List.mem_append_right _ (List.mem_append_left _ lm4)))), List.forall_mem_cons.mpr ⟨(List.mem_cons_of_mem _ (List.mem_append_left _ (List.mem_append_right _ (List.mem_append_left _ lm5)))), List.forall_mem_cons.mpr ⟨(List.mem_cons_of_mem _ (List.mem_append_left _ (List.mem_append_right _ (List.mem_append_left _ lm6)))), List.forall_mem_cons.mpr ⟨(List.mem_cons_of_mem _ (List.mem_append_left _ (List.mem_append_right _ (List.mem_append_left _ lm7)))), List.forall_mem_cons.mpr ⟨(List.mem_cons_of_mem _ (List.mem_append_left _ (List.mem_append_right _ (List.mem_append_left _ lm8)))), List.forall_mem_cons.mpr ⟨(List.mem_cons_of_mem _ (List.mem_append_left _ (List.mem_append_right _ (List.mem_append_left _ lm9)))), List.forall_mem_cons.mpr ⟨(List.mem_cons_of_mem _ (List.mem_append_left _ (List.mem_append_right _ (List.mem_append_left _ lm10)))), List.forall_mem_cons.mpr ⟨(List.mem_cons_of_mem _ (List.mem_append_left _ (List.mem_append_right _ (List.mem_append_left _ lm11)))), List.forall_mem_cons.mpr ⟨(List.mem_cons_of_mem _ (List.mem_append_left _ (List.mem_append_right _ (List.mem_append_left _ lm12)))), List.forall_mem_cons.mpr ⟨(List.mem_cons_of_mem _ (List.mem_append_left _ (List.mem_append_right _ (List.mem_append_left _ lm13)))), List.forall_mem_cons.mpr ⟨(List.mem_cons_of_mem _ (List.mem_append_left _ (List.mem_append_right _ (List.mem_append_left _ lm14)))), List.forall_mem_cons.mpr ⟨(List.mem_cons_of_mem _ (List.mem_append_left _ (List.mem_append_right _ (List.mem_append_left _ lm15)))), (fun _ h => absurd h List.not_mem_nil)⟩⟩⟩⟩⟩⟩⟩⟩⟩⟩⟩⟩⟩, (fun _ h => (List.mem_cons_of_mem _ (List.mem_append_right _ h)))⟩⟩) gw_X12_wanted)
theorem gX12_start_X12_throwsNow : GoodIn wsX12_start (wsV RX12 171 RX12 yX12_throwsNow wsX12_throwsNow) := goodIn_app (goodIn_sub (List.forall_mem_cons.mpr ⟨(List.mem_cons_of_mem _ (List.mem_append_left _ (List.mem_append_left _ lm13))), List.forall_mem_cons.mpr ⟨(List.mem_cons_of_mem _ (List.mem_append_left _ (List.mem_append_left _ lm14))), List.forall_mem_cons.mpr ⟨(List.mem_cons_of_mem _ (List.mem_append_left _ (List.mem_append_left _ lm15))), List.forall_mem_cons.mpr ⟨(List.mem_cons_of_mem _ (List.mem_append_left _ (List.mem_append_left _ lm11))), (fun _ h => absurd h List.not_mem_nil)⟩⟩⟩⟩) (by decide +kernel)) (goodIn_sub (by unfold wsX12_throwsNow; exact List.forall_mem_cons.mpr ⟨(List.mem_cons_of_mem _ (List.mem_append_left _ (List.mem_append_left _ lm16))), List.forall_mem_append.mpr ⟨List.forall_mem_cons.mpr ⟨(List.mem_cons_of_mem _ (List.mem_append_left _ (List.mem_append_left _ lm17))), (fun _ h => absurd h List.not_mem_nil)⟩, (fun _ h => (List.mem_cons_of_mem _ (List.mem_append_right _ h)))⟩⟩) gw_X12_throwsNow)
theorem gX12_start_X12_wanted : GoodIn wsX12_start (wsV RX12 421 RX12 yX12_wanted wsX12_wanted) := goodIn_app (goodIn_sub (List.forall_mem_cons.mpr ⟨(List.mem_cons_of_mem _ (List.mem_append_left _ (List.mem_append_left _ lm18))), List.forall_mem_cons.mpr ⟨(List.mem_cons_of_mem _ (List.mem_append_left _ (List.mem_append_left _ lm19))), List.forall_mem_cons.mpr ⟨(List.mem_cons_of_mem _ (List.mem_append_left _ (List.mem_append_left _ lm20))), List.forall_mem_cons.mpr ⟨(List.mem_cons_of_mem _ (List.mem_append_left _ (List.mem_append_left _ lm11))), (fun _ h => absurd h List.not_mem_nil)⟩⟩⟩⟩) (by decide +kernel)) (goodIn_sub (by unfold wsX12_wanted; exact List.forall_mem_cons.mpr ⟨(List.mem_cons_of_mem _ (List.mem_append_left _ (List.mem_append_left _ lm21))), List.forall_mem_append.mpr ⟨List.forall_mem_append.mpr ⟨List.forall_mem_cons.mpr ⟨(List.mem_cons_of_mem _ (List.mem_append_left _ (List.mem_append_left _ lm5))), List.forall_mem_cons.mpr ⟨(List.mem_cons_of_mem _ (List.mem_append_left _ (List.mem_append_left _ lm22))), List.forall_mem_cons.mpr ⟨(List.mem_cons_of_mem _ (List.mem_append_left _ (List.mem_append_left _ lm23))), List.forall_mem_cons.mpr ⟨(List.mem_cons_of_mem _ (List.mem_append_left _ (List.mem_append_right _ (List.mem_append_left _ lm0)))), List.forall_mem_cons.mpr ⟨(List.mem_cons_of_mem _ (List.mem_append_left _ (List.mem_append_right _ (List.mem_append_left _ lm1)))), List.forall_mem_cons.mpr ⟨(List.mem_cons_of_mem _ (List.mem_append_left _ (List.mem_append_left _ lm11))), List.forall_mem_cons.mpr ⟨(List.mem_cons_of_mem _ (List.mem_append_left _ (List.mem_append_right _ (List.mem_append_left _ lm2)))), List.forall_mem_cons.mpr ⟨(List.mem_cons_of_mem _ (List.mem_append_left _ (List.mem_append_right _ (List.mem_append_left _ lm3)))), List.forall_mem_cons.mpr ⟨(List.mem_cons_of_mem _ (List.mem_append_left _ (List.mem_append_right _ (List.mem_append_left _ lm4)))), List.forall_mem_cons.mpr ⟨(List.mem_cons_of_mem _ (List.mem_append_left _ (List.mem_append_right _ (List.mem_append_left _ lm5)))), List.forall_mem_cons.mpr ⟨(List.mem_cons_of_mem _ (List.mem_append_left _ (List.mem_append_right _ (List.mem_append_left _ lm6)))), List.forall_mem_cons.mpr ⟨(List.mem_cons_of_mem _ (List.mem_append_left _ (List.mem_append_right _ (List.mem_append_left _ lm7)))), List.forall_mem_cons.mpr ⟨(List.mem_cons_of_mem _ (List.mem_append_left _ (List.mem_append_right _ (List.mem_append_left _ lm8)))), List.forall_mem_cons.mpr ⟨(List.mem_cons_of_mem _ (List.mem_append_left _ (List.mem_append_right _ (List.mem_append_left _ lm9)))), List.forall_mem_cons.mpr ⟨(List.mem_cons_of_mem _ (List.mem_append_left _ (List.mem_append_right _ (List.mem_append_left _ lm10)))), List.forall_mem_cons.mpr ⟨(List.mem_cons_of_mem _ (List.mem_append_left _ (List.mem_append_right _ (List.mem_append_left _ lm11)))), List.forall_mem_cons.mpr ⟨(List.mem_cons_of_mem _ (List.mem_append_left _ (List.mem_append_right _ (List.mem_append_left _ lm12)))), List.forall_mem_cons.mpr ⟨(List.mem_cons_of_mem _ (List.mem_append_left _ (List.mem_append_right _ (List.mem_append_left _ lm13)))), List.forall_mem_cons.mpr ⟨(List.mem_cons_of_mem _ (List.mem_append_left _ (List.mem_append_right _ (List.mem_append_left _ lm14)))), List.forall_mem_cons.mpr ⟨(List.mem_cons_of_mem _ (List.mem_append_left _ (List.mem_append_right _ (List.mem_append_left _ lm15)))), List.forall_mem_cons.mpr ⟨(List.mem_cons_of_mem _ (List.mem_append_left _ (List.mem_append_right _ (List.mem_append_left _ lm16)))), List.forall_mem_cons.mpr ⟨(List.mem_cons_of_mem _ (List.mem_append_left _ (List.mem_append_right _ (List.mem_append_left _ lm17)))), List.forall_mem_cons.mpr ⟨(List.mem_cons_of_mem _ (List.mem_append_left _ (List.mem_append_right _ (List.mem_append_left _ lm18)))), List.forall_mem_cons.mpr ⟨(List.mem_cons_of_mem _ (List.mem_append_left _ (List.mem_append_right _ (List.mem_append_left _ lm19)))), (fun _ h => absurd h List.not_mem_nil)⟩⟩⟩⟩⟩⟩⟩⟩⟩⟩⟩⟩⟩⟩⟩⟩⟩⟩⟩⟩⟩⟩⟩⟩, List.forall_mem_cons.mpr ⟨(List.mem_cons_of_mem _ (List.mem_append_left _ (List.mem_append_right _ (List.mem_append_left _ lm20)))), List.forall_mem_cons.mpr ⟨(List.mem_cons_of_mem _ (List.mem_append_left _ (List.mem_append_right _ (List.mem_append_left _ lm21)))), List.forall_mem_cons.mpr ⟨(List.mem_cons_of_mem _ (List.mem_append_left _ (List.mem_append_right _ (List.mem_append_left _ lm22)))), List.forall_mem_cons.mpr ⟨(List.mem_cons_of_mem _ (List.mem_append_left _ (List.mem_append_right _ (List.mem_append_left _ lm23)))), List.forall_mem_cons.mpr ⟨(List.mem_cons_of_mem _ (List.mem_append_left _ (List.mem_append_right _ (List.mem_append_right _ lm0)))), List.forall_mem_cons.mpr ⟨(List.mem_cons_of_mem _ (List.mem_append_left _ (List.mem_append_right _ (List.mem_append_right _ lm1)))), List.forall_mem_cons.mpr ⟨(List.mem_cons_of_mem _ (List.mem_append_left _ (List.mem_append_right _ (List.mem_append_right _ lm2)))), List.forall_mem_cons.mpr ⟨(List.mem_cons_of_mem _ (List.mem_append_left _ (List.mem_append_right _ (List.mem_append_right _ lm3)))), List.forall_mem_cons.mpr ⟨(List.mem_cons_of_mem _ (List.mem_append_left _ (List.mem_append_right _ (List.mem_append_right _ lm4)))), List.forall_mem_cons.mpr ⟨(List.mem_cons_of_mem _ (List.mem_append_left _ (List.mem_append_right _ (List.mem_append_right _ lm5)))), List.forall_mem_cons.mpr ⟨(List.mem_cons_of_mem _ (List.mem_append_left _ (List.mem_append_right _ (List.mem_append_right _ lm6)))), List.forall_mem_cons.mpr ⟨(List.mem_cons_of_mem _ (List.mem_append_left _ (List.mem_append_right _ (List.mem_append_right _ lm7)))), (fun _ h => absurd h List.not_mem_nil)⟩⟩⟩⟩⟩⟩⟩⟩⟩⟩⟩⟩⟩, (fun _ h => (List.mem_cons_of_mem _ (List.mem_append_right _ h)))⟩⟩) gw_X12_wanted)
theorem gX12_start_X12_tell : GoodIn wsX12_start (wsV RX12 513 RX12 yX12_tell wsX12_tell) := goodIn_app (goodIn_sub (List.forall_mem_cons.mpr ⟨(List.mem_cons_of_mem _ (List.mem_append_left _ (List.mem_append_right _ (List.mem_append_right _ lm8)))), List.forall_mem_cons.mpr ⟨(List.mem_cons_of_mem _ (List.mem_append_left _ (List.mem_append_right _ (List.mem_append_right _ lm9)))), List.forall_mem_cons.mpr ⟨(List.mem_cons_of_mem _ (List.mem_append_left _ (List.mem_append_right _ (List.mem_append_right _ lm10)))), List.forall_mem_cons.mpr ⟨(List.mem_cons_of_mem _ (List.mem_append_left _ (List.mem_append_left _ lm11))), (fun _ h => absurd h List.not_mem_nil)⟩⟩⟩⟩) (by decide +kernel)) (goodIn_sub (by unfold wsX12_tell; exact List.forall_mem_cons.mpr ⟨(List.mem_cons_of_mem _ (List.mem_append_left _ (List.mem_append_right _ (List.mem_append_right _ lm11)))), List.forall_mem_append.mpr ⟨List.forall_mem_cons.mpr ⟨(List.mem_cons_of_mem _ (List.mem_append_left _ (List.mem_append_right _ (List.mem_append_right _ lm12)))), List.forall_mem_cons.mpr ⟨(List.mem_cons_of_mem _ (List.mem_append_left _ (List.mem_append_right _ (List.mem_append_right _ lm13)))), (fun _ h => absurd h List.not_mem_nil)⟩⟩, (fun _ h => (List.mem_cons_of_mem _ (List.mem_append_right _ h)))⟩⟩) gw_X12_tell)
theorem gX12_start_X12_seek : GoodIn wsX12_start (wsV RX12 519 RX12 yX12_seek wsX12_seek) := goodIn_app (goodIn_sub (List.forall_mem_cons.mpr ⟨(List.mem_cons_of_mem _ (List.mem_append_left _ (List.mem_append_right _ (List.mem_append_right _ lm14)))), List.forall_mem_cons.mpr ⟨(List.mem_cons_of_mem _ (List.mem_append_left _ (List.mem_append_right _ (List.mem_append_right _ lm15)))), List.forall_mem_cons.mpr ⟨(List.mem_cons_of_mem _ (List.mem_append_left _ (List.mem_append_right _ (List.mem_append_right _ lm16)))), List.forall_mem_cons.mpr ⟨(List.mem_cons_of_mem _ (List.mem_append_left _ (List.mem_append_left _ lm11))), (fun _ h => absurd h List.not_mem_nil)⟩⟩⟩⟩) (by decide +kernel)) (goodIn_sub (by unfold wsX12_seek; exact List.forall_mem_cons.mpr ⟨(List.mem_cons_of_mem _ (List.mem_append_left _ (List.mem_append_right _ (List.mem_append_right _ lm17)))), List.forall_mem_append.mpr ⟨List.forall_mem_append.mpr ⟨List.forall_mem_cons.mpr ⟨(List.mem_cons_of_mem _ (List.mem_append_left _ (List.mem_append_left _ lm2))), List.forall_mem_cons.mpr ⟨(List.mem_cons_of_mem _ (List.mem_append_left _ (List.mem_append_left _ lm5))), List.forall_mem_cons.mpr ⟨(List.mem_cons_of_mem _ (List.mem_append_left _ (List.mem_append_left _ lm22))), List.forall_mem_cons.mpr ⟨(List.mem_cons_of_mem _ (List.mem_append_left _ (List.mem_append_left _ lm23))), List.forall_mem_cons.mpr ⟨(List.mem_cons_of_mem _ (List.mem_append_left _ (List.mem_append_right _ (List.mem_append_left _ lm0)))), List.forall_mem_cons.mpr ⟨(List.mem_cons_of_mem _ (List.mem_append_left _ (List.mem_append_right _ (List.mem_append_left _ lm1)))), List.forall_mem_cons.mpr ⟨(List.mem_cons_of_mem _ (List.mem_append_left _ (List.mem_append_left _ lm11))), List.forall_mem_cons.mpr ⟨(List.mem_cons_of_mem _ (List.mem_append_left _ (List.mem_append_right _ (List.mem_append_left _ lm2)))), List.forall_mem_cons.mpr ⟨(List.mem_cons_of_mem _ (List.mem_append_left _ (List.mem_append_right _ (List.mem_append_left _ lm3)))), List.forall_mem_cons.mpr ⟨(List.mem_cons_of_mem _ (List.mem_append_left _ (List.mem_append_right _ (List.mem_append_left _ lm4)))), List.forall_mem_cons.mpr ⟨(List.mem_cons_of_mem _ (List.mem_append_left _ (List.mem_append_right _ (List.mem_append_left _ lm5)))), List.forall_mem_cons.mpr ⟨(List.mem_cons_of_mem _ (List.mem_append_left _ (List.mem_append_right _ (List.mem_append_left _ lm6)))), List.forall_mem_cons.mpr ⟨(List.mem_cons_of_mem _ (List.mem_append_left _ (List.mem_append_right _ (List.mem_append_left _ lm7)))), List.forall_mem_cons.mpr ⟨(List.mem_cons_of_mem _ (List.mem_append_left _ (List.mem_append_right _ (List.mem_append_left _ lm8)))), List.forall_mem_cons.mpr ⟨(List.mem_cons_of_mem _ (List.mem_append_left _ (List.mem_append_right _ (List.mem_append_left _ lm9)))), List.forall_mem_cons.mpr ⟨(List.mem_cons_of_mem _ (List.mem_append_left _ (List.mem_append_right _ (List.mem_append_left _ lm10)))), List.forall_mem_cons.mpr ⟨(List.mem_cons_of_mem _ (List.mem_append_left _ (List.mem_append_right _ (List.mem_append_left _ lm11)))), List.forall_mem_cons.mpr ⟨(List.mem_cons_of_mem _ (List.mem_append_left _ (List.mem_append_right _ (List.mem_append_left _ lm12)))), List.forall_mem_cons.mpr ⟨(List.mem_cons_of_mem _ (List.mem_append_left _ (List.mem_append_right _ (List.mem_append_left _ lm13)))), List.forall_mem_cons.mpr ⟨(List.mem_cons_of_mem _ (List.mem_append_left _ (List.mem_append_right _ (List.mem_append_left _ lm14)))), List.forall_mem_cons.mpr ⟨(List.mem_cons_of_mem _ (List.mem_append_left _ (List.mem_append_right _ (List.mem_append_left _ lm15)))), List.forall_mem_cons.mpr ⟨(List.mem_cons_of_mem _ (List.mem_append_left _ (List.mem_append_right _ (List.mem_append_left _ lm16)))), List.forall_mem_cons.mpr ⟨(List.mem_cons_of_mem _ (List.mem_append_left _ (List.mem_append_right _ (List.mem_append_left _ lm17)))), List.forall_mem_cons.mpr ⟨(List.mem_cons_of_mem _ (List.mem_append_left _ (List.mem_append_right _ (List.mem_append_left _ lm18)))), (fun _ h => absurd h List.not_mem_nil)⟩⟩⟩⟩⟩⟩⟩⟩⟩⟩⟩⟩⟩⟩⟩⟩⟩⟩⟩⟩⟩⟩⟩⟩, List.forall_mem_cons.mpr ⟨(List.mem_cons_of_mem _ (List.mem_append_left _ (List.mem_append_right _ (List.mem_append_left _ lm19)))), List.forall_mem_cons.mpr ⟨(List.mem_cons_of_mem _ (List.mem_append_left _ (List.mem_append_right _ (List.mem_append_left _ lm20)))), List.forall_mem_cons.mpr ⟨(List.mem_cons_of_mem _ (List.mem_append_left _ (List.mem_append_right _ (List.mem_append_left _ lm21)))), List.forall_mem_cons.mpr ⟨(List.mem_cons_of_mem _ (List.mem_append_left _ (List.mem_append_right _ (List.mem_append_left _ lm22)))), List.forall_mem_cons.mpr ⟨(List.mem_cons_of_mem _ (List.mem_append_left _ (List.mem_append_right _ (List.mem_append_left _ lm23)))), List.forall_mem_cons.mpr ⟨(List.mem_cons_of_mem _ (List.mem_append_left _ (List.mem_append_right _ (List.mem_append_right _ lm0)))), List.forall_mem_cons.mpr ⟨(List.mem_cons_of_mem _ (List.mem_append_left _ (List.mem_append_right _ (List.mem_append_right _ lm1)))), List.forall_mem_cons.mpr ⟨(List.mem_cons_of_mem _ (List.mem_append_left _ (List.mem_append_right _ (List.mem_append_right _ lm2)))), List.forall_mem_cons.mpr ⟨(List.mem_cons_of_mem _ (List.mem_append_left _ (List.mem_append_right _ (List.mem_append_right _ lm3)))), List.forall_mem_cons.mpr ⟨(List.mem_cons_of_mem _ (List.mem_append_left _ (List.mem_append_right _ (List.mem_append_right _ lm4)))), List.forall_mem_cons.mpr ⟨(List.mem_cons_of_mem _ (List.mem_append_left _ (List.mem_append_right _ (List.mem_append_right _ lm5)))), List.forall_mem_cons.mpr ⟨(List.mem_cons_of_mem _ (List.mem_append_left _ (List.mem_append_right _ (List.mem_append_right _ lm6)))), List.forall_mem_cons.mpr ⟨(List.mem_cons_of_mem _ (List.mem_append_left _ (List.mem_append_right _ (List.mem_append_right _ lm7)))), (fun _ h => absurd h List.not_mem_nil)⟩⟩⟩⟩⟩⟩⟩⟩⟩⟩⟩⟩⟩⟩, (fun _ h => (List.mem_cons_of_mem _ (List.mem_append_right _ h)))⟩⟩) gw_X12_seek)
theorem gX12_start_X12_settle : GoodIn wsX12_start (wsV RX12 522 RX12 yX12_settle wsX12_settle) := goodIn_app (goodIn_sub (List.forall_mem_cons.mpr ⟨(List.mem_cons_of_mem _ (List.mem_append_left _ (List.mem_append_right _ (List.mem_append_right _ lm18)))), List.forall_mem_cons.mpr ⟨(List.mem_cons_of_mem _ (List.mem_append_left _ (List.mem_append_right _ (List.mem_append_right _ lm19)))), List.forall_mem_cons.mpr ⟨(List.mem_cons_of_mem _ (List.mem_append_left _ (List.mem_append_right _ (List.mem_append_right _ lm20)))), List.forall_mem_cons.mpr ⟨(List.mem_cons_of_mem _ (List.mem_append_left _ (List.mem_append_left _ lm11))), (fun _ h => absurd h List.not_mem_nil)⟩⟩⟩⟩) (by decide +kernel)) (goodIn_sub (by unfold wsX12_settle; exact List.forall_mem_cons.mpr ⟨(List.mem_cons_of_mem _ (List.mem_append_left _ (List.mem_append_right _ (List.mem_append_right _ lm21)))), List.forall_mem_append.mpr ⟨List.forall_mem_cons.mpr ⟨(List.mem_cons_of_mem _ (List.mem_append_left _ (List.mem_append_left _ lm2))), List.forall_mem_cons.mpr ⟨(List.mem_cons_of_mem _ (List.mem_append_left _ (List.mem_append_left _ lm5))), List.forall_mem_cons.mpr ⟨(List.mem_cons_of_mem _ (List.mem_append_left _ (List.mem_append_left _ lm0))), List.forall_mem_cons.mpr ⟨(List.mem_cons_of_mem _ (List.mem_append_left _ (List.mem_append_right _ (List.mem_append_right _ lm22)))), List.forall_mem_cons.mpr ⟨(List.mem_cons_of_mem _ (List.mem_append_left _ (List.mem_append_left _ lm7))), List.forall_mem_cons.mpr ⟨(List.mem_cons_of_mem _ (List.mem_append_left _ (List.mem_append_left _ lm3))), List.forall_mem_cons.mpr ⟨(List.mem_cons_of_mem _ (List.mem_append_left _ (List.mem_append_left _ lm4))), List.forall_mem_cons.mpr ⟨(List.mem_cons_of_mem _ (List.mem_append_left _ (List.mem_append_right _ (List.mem_append_right _ lm8)))), List.forall_mem_cons.mpr ⟨(List.mem_cons_of_mem _ (List.mem_append_left _ (List.mem_append_right _ (List.mem_append_right _ lm9)))), List.forall_mem_cons.mpr ⟨(List.mem_cons_of_mem _ (List.mem_append_left _ (List.mem_append_right _ (List.mem_append_right _ lm10)))), List.forall_mem_cons.mpr ⟨(List.mem_cons_of_mem _ (List.mem_append_left _ (List.mem_append_left _ lm11))), List.forall_mem_cons.mpr ⟨(List.mem_cons_of_mem _ (List.mem_append_left _ (List.mem_append_right _ (List.mem_append_right _ lm11)))), List.forall_mem_cons.mpr ⟨(List.mem_cons_of_mem _ (List.mem_append_left _ (List.mem_append_right _ (List.mem_append_right _ lm12)))), List.forall_mem_cons.mpr ⟨(List.mem_cons_of_mem _ (List.mem_append_left _ (List.mem_append_right _ (List.mem_append_right _ lm13)))), (fun _ h => absurd h List.not_mem_nil)⟩⟩⟩⟩⟩⟩⟩⟩⟩⟩⟩⟩⟩⟩, (fun _ h => (List.mem_cons_of_mem _ (List.mem_append_right _ h)))⟩⟩) gw_X12_settle)
set_option maxHeartbeats 2000000 in
set_option maxRecDepth 100000 in
theorem m_read0 (l : Launch) (D : va_G) (g : Nat → Nat) (ka : Nat → ClassId) (ad : Nat → Nat) (i : Nat → Nat → Int32) (r : Nat → Nat → Nat) (L : Nat → Nat → Int64) (d : Nat → Nat → UInt64)  (hO : OkI i) (hR : RS r) (sz : Nat) (hb76 : (i 36 76).toInt = 1) : Met l yX12_read wsX12_read ({ frames := 2, cells := 0, slots := 0, locals := 41 }) (va_Pc [.ref (g 36)] (sj_B D (hwc g ka i r L d) (hT ka) sz (gx ad (va_A (hwc g ka i r L d) sz)))) (sj_Qi (S := (Nat → Nat → Int32)) D (fun v u => OkI u ∧ (∀ a b, ¬ ((a = 36 ∧ (b = 0))) → u a b = i a b)) (fun u => hwc g ka u r L d) (fun _ => []) (va_A (hwc g ka i r L d) sz)) 0 0 (va_A (hwc g ka i r L d) sz) := by
  refine x_met (Ex := gx ad) (cc := cX12_read) (maxL := 5) (ret := (some .int)) (by decide) rfl (Nat.le_of_ble_eq_true rfl) ?_
  intro p e s m below meth c A ls hx hb hr hml hts hown hlocks hA hS hH hK hE hl
  have hown : s.vm.findClass RX12 = some m.cls := hown
  have hl : lv_has ls 5 [(0, .ref (g 36))] := hl
  have hK : va_K D vwCl (hT ka) s := hK
  refine lv_aload_n hx hb dX12_read_0 rfl (lv_at hl 0 rfl) ?_
  refine x_calli (va_runV (As := []) (rest := []) ⟨hx, hb, hml, hown, hts⟩ (m_busy l D g ka ad i r L d  hO hR s.heap.size ) (cwV 0 hts gX12_read_X12_busy rfl rfl rfl (by decide +kernel) ⟨(Nat.le_of_ble_eq_true rfl), (Nat.le_of_ble_eq_true rfl)⟩) (x_preV (q := (RX12, TX12, 86)) hH hK (q_obj (by decide) (rfl : kd 36 = 12) (by decide)) rfl gxb (gxw hE hS (x_F hH hS hA))) rfl rfl hl.1 rfl (lv_room (Nat.le_of_ble_eq_true rfl)) dX12_read_1 ⟨(Nat.le_of_ble_eq_true rfl), (Nat.le_of_ble_eq_true rfl)⟩) hH hS hA rfl rfl (fun r_1 im_3 H locs hw_2 hH hS => ?_)
  have hH : sj_H D A (hwc g ka im_3 r L d) H := hH
  obtain ⟨hO_5, hfr_4, hr_6, he_7⟩ := hw_2
  have hr_6 : (0 : Int) ≤ r_1.toInt ∧ r_1.toInt ≤ 1 := hr_6
  refine lv_if_eq (tgt := 9) hx hb dX12_read_4 (by decide) (fun h => absurd h (p_ne (rfl : r_1.toInt = _) (show (0 : Int32).toInt = 0 from rfl) (by omega))) (fun _ => ?_)
  refine lv_iconst (v := 0) hx hb dX12_read_7 (by decide) ?_
  exact sj_zret hx hb hr hlocks rfl hS im_3 ⟨hO_5, (fun a b ha => (hfr_4 a b (by omega)))⟩ hH (sj_Knil hK) (Nat.le_of_ble_eq_true rfl) (Nat.le_of_ble_eq_true rfl) dX12_read_8
set_option maxHeartbeats 2000000 in
set_option maxRecDepth 100000 in
theorem m_define0 (l : Launch) (D : va_G) (g : Nat → Nat) (ka : Nat → ClassId) (ad : Nat → Nat) (i : Nat → Nat → Int32) (r : Nat → Nat → Nat) (L : Nat → Nat → Int64) (d : Nat → Nat → UInt64) (x : Int32) (hO : OkI i) (hR : RS r) (sz : Nat) (hb76 : (i 36 76).toInt = 1) : Met l yX12_define wsX12_define ({ frames := 2, cells := 0, slots := 0, locals := 41 }) (va_Pc [.ref (g 36), .int x] (sj_B D (hwc g ka i r L d) (hT ka) sz (gx ad (va_A (hwc g ka i r L d) sz)))) (sj_Qi (S := (Nat → Nat → Int32)) D (fun v u => OkI u ∧ (∀ a b, ¬ ((a = 36 ∧ (b = 0))) → u a b = i a b)) (fun u => hwc g ka u r L d) (fun _ => []) (va_A (hwc g ka i r L d) sz)) 0 0 (va_A (hwc g ka i r L d) sz) := by
  refine x_met (Ex := gx ad) (cc := cX12_define) (maxL := 5) (ret := (some .int)) (by decide) rfl (Nat.le_of_ble_eq_true rfl) ?_
  intro p e s m below meth c A ls hx hb hr hml hts hown hlocks hA hS hH hK hE hl
  have hown : s.vm.findClass RX12 = some m.cls := hown
  have hl : lv_has ls 5 [(0, .ref (g 36)), (1, .int x)] := hl
  have hK : va_K D vwCl (hT ka) s := hK
  have hg_1 := s_rng x
  refine lv_aload_n hx hb dX12_define_0 rfl (lv_at hl 0 rfl) ?_
  refine x_calli (va_runV (As := []) (rest := []) ⟨hx, hb, hml, hown, hts⟩ (m_busy l D g ka ad i r L d  hO hR s.heap.size ) (cwV 0 hts gX12_define_X12_busy rfl rfl rfl (by decide +kernel) ⟨(Nat.le_of_ble_eq_true rfl), (Nat.le_of_ble_eq_true rfl)⟩) (x_preV (q := (RX12, TX12, 86)) hH hK (q_obj (by decide) (rfl : kd 36 = 12) (by decide)) rfl gxb (gxw hE hS (x_F hH hS hA))) rfl rfl hl.1 rfl (lv_room (Nat.le_of_ble_eq_true rfl)) dX12_define_1 ⟨(Nat.le_of_ble_eq_true rfl), (Nat.le_of_ble_eq_true rfl)⟩) hH hS hA rfl rfl (fun r_2 im_4 H locs hw_3 hH hS => ?_)
  have hH : sj_H D A (hwc g ka im_4 r L d) H := hH
  obtain ⟨hO_6, hfr_5, hr_7, he_8⟩ := hw_3
  have hr_7 : (0 : Int) ≤ r_2.toInt ∧ r_2.toInt ≤ 1 := hr_7
  refine lv_if_eq (tgt := 9) hx hb dX12_define_4 (by decide) (fun h => absurd h (p_ne (rfl : r_2.toInt = _) (show (0 : Int32).toInt = 0 from rfl) (by omega))) (fun _ => ?_)
  refine lv_iconst (v := 0) hx hb dX12_define_7 (by decide) ?_
  exact sj_zret hx hb hr hlocks rfl hS im_4 ⟨hO_6, (fun a b ha => (hfr_5 a b (by omega)))⟩ hH (sj_Knil hK) (Nat.le_of_ble_eq_true rfl) (Nat.le_of_ble_eq_true rfl) dX12_define_8
set_option maxHeartbeats 2000000 in
set_option maxRecDepth 100000 in
theorem m_hook0 (l : Launch) (D : va_G) (g : Nat → Nat) (ka : Nat → ClassId) (ad : Nat → Nat) (i : Nat → Nat → Int32) (r : Nat → Nat → Nat) (L : Nat → Nat → Int64) (d : Nat → Nat → UInt64) (x : Int32) (y : Int32) (hO : OkI i) (hR : RS r) (sz : Nat) (hb76 : (i 36 76).toInt = 1) : Met l yX12_hook wsX12_hook ({ frames := 2, cells := 0, slots := 0, locals := 41 }) (va_Pc [.ref (g 36), .int x, .int y] (sj_B D (hwc g ka i r L d) (hT ka) sz (gx ad (va_A (hwc g ka i r L d) sz)))) (sj_Qi (S := (Nat → Nat → Int32)) D (fun v u => OkI u ∧ (∀ a b, ¬ ((a = 36 ∧ (b = 0))) → u a b = i a b)) (fun u => hwc g ka u r L d) (fun _ => []) (va_A (hwc g ka i r L d) sz)) 0 0 (va_A (hwc g ka i r L d) sz) := by
  refine x_met (Ex := gx ad) (cc := cX12_hook) (maxL := 4) (ret := (some .int)) (by decide) rfl (Nat.le_of_ble_eq_true rfl) ?_
  intro p e s m below meth c A ls hx hb hr hml hts hown hlocks hA hS hH hK hE hl
  have hown : s.vm.findClass RX12 = some m.cls := hown
  have hl : lv_has ls 4 [(0, .ref (g 36)), (1, .int x), (2, .int y)] := hl
  have hK : va_K D vwCl (hT ka) s := hK
  have hg_1 := s_rng x
  have hg_2 := s_rng y
  refine lv_aload_n hx hb dX12_hook_0 rfl (lv_at hl 0 rfl) ?_
  refine x_calli (va_runV (As := []) (rest := []) ⟨hx, hb, hml, hown, hts⟩ (m_busy l D g ka ad i r L d  hO hR s.heap.size ) (cwV 0 hts gX12_hook_X12_busy rfl rfl rfl (by decide +kernel) ⟨(Nat.le_of_ble_eq_true rfl), (Nat.le_of_ble_eq_true rfl)⟩) (x_preV (q := (RX12, TX12, 86)) hH hK (q_obj (by decide) (rfl : kd 36 = 12) (by decide)) rfl gxb (gxw hE hS (x_F hH hS hA))) rfl rfl hl.1 rfl (lv_room (Nat.le_of_ble_eq_true rfl)) dX12_hook_1 ⟨(Nat.le_of_ble_eq_true rfl), (Nat.le_of_ble_eq_true rfl)⟩) hH hS hA rfl rfl (fun r_3 im_5 H locs hw_4 hH hS => ?_)
  have hH : sj_H D A (hwc g ka im_5 r L d) H := hH
  obtain ⟨hO_7, hfr_6, hr_8, he_9⟩ := hw_4
  have hr_8 : (0 : Int) ≤ r_3.toInt ∧ r_3.toInt ≤ 1 := hr_8
  refine lv_if_eq (tgt := 9) hx hb dX12_hook_4 (by decide) (fun h => absurd h (p_ne (rfl : r_3.toInt = _) (show (0 : Int32).toInt = 0 from rfl) (by omega))) (fun _ => ?_)
  refine lv_iconst (v := 0) hx hb dX12_hook_7 (by decide) ?_
  exact sj_zret hx hb hr hlocks rfl hS im_5 ⟨hO_7, (fun a b ha => (hfr_6 a b (by omega)))⟩ hH (sj_Knil hK) (Nat.le_of_ble_eq_true rfl) (Nat.le_of_ble_eq_true rfl) dX12_hook_8
set_option maxHeartbeats 2000000 in
set_option maxRecDepth 100000 in
theorem m_filter0 (l : Launch) (D : va_G) (g : Nat → Nat) (ka : Nat → ClassId) (ad : Nat → Nat) (i : Nat → Nat → Int32) (r : Nat → Nat → Nat) (L : Nat → Nat → Int64) (d : Nat → Nat → UInt64)  (hO : OkI i) (hR : RS r) (sz : Nat) (hb76 : (i 36 76).toInt = 1) : Met l yX12_filter wsX12_filter ({ frames := 2, cells := 0, slots := 0, locals := 41 }) (va_Pc [.ref (g 36)] (sj_B D (hwc g ka i r L d) (hT ka) sz (gx ad (va_A (hwc g ka i r L d) sz)))) (sj_Qi (S := (Nat → Nat → Int32)) D (fun v u => OkI u ∧ (∀ a b, ¬ ((a = 36 ∧ (b = 0))) → u a b = i a b)) (fun u => hwc g ka u r L d) (fun _ => []) (va_A (hwc g ka i r L d) sz)) 0 0 (va_A (hwc g ka i r L d) sz) := by
  refine x_met (Ex := gx ad) (cc := cX12_filter) (maxL := 1) (ret := (some .int)) (by decide) rfl (Nat.le_of_ble_eq_true rfl) ?_
  intro p e s m below meth c A ls hx hb hr hml hts hown hlocks hA hS hH hK hE hl
  have hown : s.vm.findClass RX12 = some m.cls := hown
  have hl : lv_has ls 1 [(0, .ref (g 36))] := hl
  have hK : va_K D vwCl (hT ka) s := hK
  refine lv_aload_n hx hb dX12_filter_0 rfl (lv_at hl 0 rfl) ?_
  refine x_calli (va_runV (As := []) (rest := []) ⟨hx, hb, hml, hown, hts⟩ (m_busy l D g ka ad i r L d  hO hR s.heap.size ) (cwV 0 hts gX12_filter_X12_busy rfl rfl rfl (by decide +kernel) ⟨(Nat.le_of_ble_eq_true rfl), (Nat.le_of_ble_eq_true rfl)⟩) (x_preV (q := (RX12, TX12, 86)) hH hK (q_obj (by decide) (rfl : kd 36 = 12) (by decide)) rfl gxb (gxw hE hS (x_F hH hS hA))) rfl rfl hl.1 rfl (lv_room (Nat.le_of_ble_eq_true rfl)) dX12_filter_1 ⟨(Nat.le_of_ble_eq_true rfl), (Nat.le_of_ble_eq_true rfl)⟩) hH hS hA rfl rfl (fun r_1 im_3 H locs hw_2 hH hS => ?_)
  have hH : sj_H D A (hwc g ka im_3 r L d) H := hH
  obtain ⟨hO_5, hfr_4, hr_6, he_7⟩ := hw_2
  have hr_6 : (0 : Int) ≤ r_1.toInt ∧ r_1.toInt ≤ 1 := hr_6
  refine lv_if_eq (tgt := 9) hx hb dX12_filter_4 (by decide) (fun h => absurd h (p_ne (rfl : r_1.toInt = _) (show (0 : Int32).toInt = 0 from rfl) (by omega))) (fun _ => ?_)
  refine lv_iconst (v := 0) hx hb dX12_filter_7 (by decide) ?_
  exact sj_zret hx hb hr hlocks rfl hS im_3 ⟨hO_5, (fun a b ha => (hfr_4 a b (by omega)))⟩ hH (sj_Knil hK) (Nat.le_of_ble_eq_true rfl) (Nat.le_of_ble_eq_true rfl) dX12_filter_8
set_option maxHeartbeats 2000000 in
set_option maxRecDepth 100000 in
theorem m_start0 (l : Launch) (D : va_G) (g : Nat → Nat) (ka : Nat → ClassId) (ad : Nat → Nat) (i : Nat → Nat → Int32) (r : Nat → Nat → Nat) (L : Nat → Nat → Int64) (d : Nat → Nat → UInt64) (x : Int32) (hO : OkI i) (hR : RS r) (sz : Nat) (hb76 : (i 36 76).toInt = 1) : Met l yX12_start wsX12_start ({ frames := 2, cells := 0, slots := 0, locals := 41 }) (va_Pc [.ref (g 36), .int x] (sj_B D (hwc g ka i r L d) (hT ka) sz (gx ad (va_A (hwc g ka i r L d) sz)))) (sj_Qi (S := (Nat → Nat → Int32)) D (fun v u => OkI u ∧ (∀ a b, ¬ ((a = 36 ∧ (b = 0))) → u a b = i a b)) (fun u => hwc g ka u r L d) (fun _ => []) (va_A (hwc g ka i r L d) sz)) 0 0 (va_A (hwc g ka i r L d) sz) := by
  refine x_met (Ex := gx ad) (cc := cX12_start) (maxL := 3) (ret := (some .int)) (by decide) rfl (Nat.le_of_ble_eq_true rfl) ?_
  intro p e s m below meth c A ls hx hb hr hml hts hown hlocks hA hS hH hK hE hl
  have hown : s.vm.findClass RX12 = some m.cls := hown
  have hl : lv_has ls 3 [(0, .ref (g 36)), (1, .int x)] := hl
  have hK : va_K D vwCl (hT ka) s := hK
  have hg_1 := s_rng x
  refine lv_aload_n hx hb dX12_start_0 rfl (lv_at hl 0 rfl) ?_
  refine x_calli (va_runV (As := []) (rest := []) ⟨hx, hb, hml, hown, hts⟩ (m_busy l D g ka ad i r L d  hO hR s.heap.size ) (cwV 0 hts gX12_start_X12_busy rfl rfl rfl (by decide +kernel) ⟨(Nat.le_of_ble_eq_true rfl), (Nat.le_of_ble_eq_true rfl)⟩) (x_preV (q := (RX12, TX12, 86)) hH hK (q_obj (by decide) (rfl : kd 36 = 12) (by decide)) rfl gxb (gxw hE hS (x_F hH hS hA))) rfl rfl hl.1 rfl (lv_room (Nat.le_of_ble_eq_true rfl)) dX12_start_1 ⟨(Nat.le_of_ble_eq_true rfl), (Nat.le_of_ble_eq_true rfl)⟩) hH hS hA rfl rfl (fun r_2 im_4 H locs hw_3 hH hS => ?_)
  have hH : sj_H D A (hwc g ka im_4 r L d) H := hH
  obtain ⟨hO_6, hfr_5, hr_7, he_8⟩ := hw_3
  have hr_7 : (0 : Int) ≤ r_2.toInt ∧ r_2.toInt ≤ 1 := hr_7
  refine lv_if_eq (tgt := 9) hx hb dX12_start_4 (by decide) (fun h => absurd h (p_ne (rfl : r_2.toInt = _) (show (0 : Int32).toInt = 0 from rfl) (by omega))) (fun _ => ?_)
  refine lv_iconst (v := 0) hx hb dX12_start_7 (by decide) ?_
  exact sj_zret hx hb hr hlocks rfl hS im_4 ⟨hO_6, (fun a b ha => (hfr_5 a b (by omega)))⟩ hH (sj_Knil hK) (Nat.le_of_ble_eq_true rfl) (Nat.le_of_ble_eq_true rfl) dX12_start_8
set_option maxHeartbeats 2000000 in
set_option maxRecDepth 100000 in
theorem m_hook1 (l : Launch) (D : va_G) (g : Nat → Nat) (ka : Nat → ClassId) (ad : Nat → Nat) (i : Nat → Nat → Int32) (r : Nat → Nat → Nat) (L : Nat → Nat → Int64) (d : Nat → Nat → UInt64) (x : Int32) (y : Int32) (hO : OkI i) (hR : RS r) (sz : Nat) (hx0 : 0 ≤ x.toInt) (hx1 : x.toInt ≤ 1) (hb76 : (i 36 76).toInt = 0) : Met l yX12_hook wsX12_hook ({ frames := 4, cells := 0, slots := 0, locals := 91 }) (va_Pc [.ref (g 36), .int x, .int y] (sj_B D (hwc g ka i r L d) (hT ka) sz (gx ad (va_A (hwc g ka i r L d) sz)))) (sj_Qi (S := (Nat → Nat → Int32)) D (fun v u => OkI u ∧ (∀ a b, ¬ ((a = 36 ∧ (b = 0 ∨ b = 2 ∨ b = 65 ∨ b = 66 ∨ b = 67)) ∨ a = 416 ∨ a = 417 ∨ a = 418 ∨ a = 419 ∨ a = 420 ∨ a = 421) → u a b = i a b) ∧ ((u 36 2).toInt = 0) ∧ (hkM i u x.toInt y.toInt)) (fun u => hwc g ka u r L d) (fun _ => []) (va_A (hwc g ka i r L d) sz)) 0 0 (va_A (hwc g ka i r L d) sz) := by
  refine x_met (Ex := gx ad) (cc := cX12_hook) (maxL := 4) (ret := (some .int)) (by decide) rfl (Nat.le_of_ble_eq_true rfl) ?_
  intro p e s m below meth c A ls hx hb hr hml hts hown hlocks hA hS hH hK hE hl
  have hown : s.vm.findClass RX12 = some m.cls := hown
  have in12 : ∀ w ∈ wsX120, w ∈ wsX12_hook := (fun _ h => (List.mem_cons_of_mem _ (List.mem_append_right _ h)))
  have wd0 := hts (.fieldLink RX12 12 "StoryDeskModel" "text" "[C") (List.mem_cons_of_mem _ (List.mem_append_left _ (List.mem_append_left _ lm0)))
  have wd1 := hts (.fieldLink RX12 7 "StoryDeskModel" "size" "I") (List.mem_cons_of_mem _ (List.mem_append_left _ (List.mem_append_left _ lm1)))
  have wd2 := hts (.fieldLink RX12 1 "StoryDeskModel" "thrown" "I") (List.mem_cons_of_mem _ (List.mem_append_left _ (List.mem_append_left _ lm3)))
  have wd3 := hts (.fieldLink RX12 404 "StoryDeskModel" "hooks" "I") (List.mem_cons_of_mem _ (List.mem_append_left _ (List.mem_append_left _ lm2)))
  have wd4 := hts (.fieldLink RX12 411 "StoryDeskModel" "early" "[Z") (List.mem_cons_of_mem _ (List.mem_append_left _ (List.mem_append_left _ lm4)))
  have wd5 := hts (.fieldLink RX12 415 "StoryDeskModel" "hookScript" "[I") (List.mem_cons_of_mem _ (List.mem_append_left _ (List.mem_append_left _ lm5)))
  have hl : lv_has ls 4 [(0, .ref (g 36)), (1, .int x), (2, .int y)] := hl
  have hK : va_K D vwCl (hT ka) s := hK
  have hg_1 := s_rng y
  have hb67 : (0 : Int) ≤ (i 36 67).toInt ∧ (i 36 67).toInt ≤ 8 := hO 36 67
  have hb2 : (0 : Int) ≤ (i 36 2).toInt ∧ (i 36 2).toInt ≤ 480 := hO 36 2
  refine lv_aload_n hx hb dX12_hook_0 rfl (lv_at hl 0 rfl) ?_
  refine x_calli (va_runV (As := []) (rest := []) ⟨hx, hb, hml, hown, hts⟩ (m_busy l D g ka ad i r L d  hO hR s.heap.size ) (cwV 0 hts gX12_hook_X12_busy rfl rfl rfl (by decide +kernel) ⟨(Nat.le_of_ble_eq_true rfl), (Nat.le_of_ble_eq_true rfl)⟩) (x_preV (q := (RX12, TX12, 86)) hH hK (q_obj (by decide) (rfl : kd 36 = 12) (by decide)) rfl gxb (gxw hE hS (x_F hH hS hA))) rfl rfl hl.1 rfl (lv_room (Nat.le_of_ble_eq_true rfl)) dX12_hook_1 ⟨(Nat.le_of_ble_eq_true rfl), (Nat.le_of_ble_eq_true rfl)⟩) hH hS hA rfl rfl (fun r_2 im_4 H locs hw_3 hH hS => ?_)
  have hH : sj_H D A (hwc g ka im_4 r L d) H := hH
  obtain ⟨hO_6, hfr_5, hr_7, he_8⟩ := hw_3
  have hr_7 : (0 : Int) ≤ r_2.toInt ∧ r_2.toInt ≤ 1 := hr_7
  refine lv_if_eq (tgt := 9) hx hb dX12_hook_4 (by decide) (fun _ => ?_) (fun h => absurd (p_eq (rfl : r_2.toInt = _) (show (0 : Int32).toInt = 0 from rfl) (by omega)) h)
  refine lv_aload_n hx hb dX12_hook_9 rfl (lv_at hl 0 rfl) ?_
  refine lv_aload_n hx hb dX12_hook_10 rfl (lv_at hl 0 rfl) ?_
  refine h_getr (ci := 12) (C := RX12) (F := TX12) (N := 86) hx hb hts in12 hown hK hH (by decide) (rfl : kd 36 = 12) (by decide) rfl 1 (by decide) wd0 (fun _ h9 => h9) (by decide) rfl (t := 379) (hR 36 1 rfl) (by decide) dX12_hook_11 ?_
  refine lv_iconst (v := 0) hx hb dX12_hook_14 (by decide) ?_
  refine lv_aload_n hx hb dX12_hook_15 rfl (lv_at hl 0 rfl) ?_
  have bx_9 : (0 : Int) ≤ (i 36 2).toInt ∧ (i 36 2).toInt ≤ 480 := hO 36 2
  refine h_geti (ci := 12) (C := RX12) (F := TX12) (N := 86) hx hb hts in12 hown hK hH (by decide) (rfl : kd 36 = 12) (by decide) rfl 2 (by decide) wd1 (fun _ h9 => h9) (by decide) rfl dX12_hook_16 ?_
  refine sj_i (y := (i 36 2)) (hfr_5 36 2 (by omega)) ?_
  refine lv_iconst (v := 0) hx hb dX12_hook_19 (by decide) ?_
  have hl_10 : (0 : Int32).toInt = 0 := rfl
  have hl_11 : (0 : Int32).toInt = 0 := rfl
  refine x_calli (va_runV (As := [.ref (g 379), .int 0, .int (i 36 2), .int 0]) (rest := []) ⟨hx, hb, hml, hown, hts⟩ (m_test_text l D g ka ad im_4 r L d 0 (i 36 2) 0 hO_6 hR H.size (by first | omega | decide) (by first | omega | decide) (by first | omega | decide) (by first | omega | decide) (by first | omega | decide)) (cwV 4 hts gX12_hook_X12_test rfl rfl rfl (by decide +kernel) ⟨(Nat.le_of_ble_eq_true rfl), (Nat.le_of_ble_eq_true rfl)⟩) (x_preV (q := (RX12, TX12, 86)) hH hK (q_obj (by decide) (rfl : kd 36 = 12) (by decide)) rfl gxb (gxw hE hS (x_F hH hS hA))) rfl rfl hl.1 rfl (lv_room (Nat.le_of_ble_eq_true rfl)) dX12_hook_20 ⟨(Nat.le_of_ble_eq_true rfl), (Nat.le_of_ble_eq_true rfl)⟩) hH hS hA rfl rfl (fun r_12 im_14 H locs hw_13 hH hS => ?_)
  have hH : sj_H D A (hwc g ka im_14 r L d) H := hH
  obtain ⟨hO_16, hfr_15, hr_17, hx2_18, hx2_19, hx2_20⟩ := hw_13
  have hr_17 : (-1 : Int) ≤ r_12.toInt ∧ r_12.toInt ≤ 1 := hr_17
  have e379 : im_4 379 = i 379 := funext fun b9 => (hfr_5 379 b9 (by omega))
  rw [e379] at hx2_19
  rw [e379] at hx2_20
  have htk := mTk_v (i := i) (v := (r_12 : Int32).toInt) rfl (hx2_18) (hx2_19) (hx2_20)
  refine lv_if_lt (tgt := 40) hx hb dX12_hook_23 (by decide) (fun c_21 => ?_) (fun c_21 => ?_)
  · skip
    have h_22 := s_lt (rfl : r_12.toInt = _) (show (0 : Int32).toInt = 0 from rfl) c_21
    have hnk := (htk.resolve_left (fun q => by have := q.1; omega)).2
    refine lv_iconst (v := 0) hx hb dX12_hook_40 (by decide) ?_
    refine lv_istore_n (lv' := [(3, .int 0), (0, .ref (g 36)), (1, .int x), (2, .int y)]) hx hb dX12_hook_41 rfl hl (by decide) rfl (fun ls hl => ?_)
    refine lv_aload_n hx hb dX12_hook_42 rfl (lv_at hl 1 rfl) ?_
    refine lv_iload_n hx hb dX12_hook_43 rfl (lv_at hl 0 rfl) ?_
    refine lv_if_ne (tgt := 51) hx hb dX12_hook_44 (by decide) (fun h => absurd (by decide) h) (fun _ => ?_)
    refine lv_iconst (v := 2) hx hb dX12_hook_47 (by decide) ?_
    refine lv_goto (tgt := 65) hx hb dX12_hook_48 (by decide) ?_
    have hO_23 := okp hO_16 (n := 36) (k := 0) (v := 2) (show (0 : Int) ≤ (2 : Int32).toInt ∧ (2 : Int32).toInt ≤ 3 from ⟨by decide, by decide⟩)
    refine h_puti (ty := .int) (ci := 12) (C := RX12) (F := TX12) (N := 86) hx hb hts in12 tyX12 tyX12_ok nmX12 hown hK hH hS (by decide) (rfl : kd 36 = 12) (by decide) rfl 0 (by decide) wd2 (fun _ h9 => h9) rfl (by decide +kernel) rfl rfl (by decide) rfl dX12_hook_65 (fun H locs hH hS => ?_)
    refine lv_aload_n hx hb dX12_hook_68 rfl (lv_at hl 1 rfl) ?_
    refine h_geti (ci := 12) (C := RX12) (F := TX12) (N := 86) hx hb hts in12 hown hK hH (by decide) (rfl : kd 36 = 12) (by decide) rfl 0 (by decide) wd2 (fun _ h9 => h9) (by decide) rfl dX12_hook_69 ?_
    refine sj_i (y := 2) (up2_at _ _ _ _) ?_
    refine lv_if_ne (tgt := 83) hx hb dX12_hook_72 (by decide) (fun _ => ?_) (fun h => absurd h (by decide))
    refine lv_aload_n hx hb dX12_hook_83 rfl (lv_at hl 1 rfl) ?_
    refine lv_iconst (v := 0) hx hb dX12_hook_84 (by decide) ?_
    have hO_24 := okp hO_23 (n := 36) (k := 2) (v := 0) (show (0 : Int) ≤ (0 : Int32).toInt ∧ (0 : Int32).toInt ≤ 480 from ⟨by decide, by decide⟩)
    refine h_puti (ty := .int) (ci := 12) (C := RX12) (F := TX12) (N := 86) hx hb hts in12 tyX12 tyX12_ok nmX12 hown hK hH hS (by decide) (rfl : kd 36 = 12) (by decide) rfl 2 (by decide) wd1 (fun _ h9 => h9) rfl (by decide +kernel) rfl rfl (by decide) rfl dX12_hook_85 (fun H locs hH hS => ?_)
    refine lv_aload_n hx hb dX12_hook_88 rfl (lv_at hl 1 rfl) ?_
    refine h_geti (ci := 12) (C := RX12) (F := TX12) (N := 86) hx hb hts in12 hown hK hH (by decide) (rfl : kd 36 = 12) (by decide) rfl 0 (by decide) wd2 (fun _ h9 => h9) (by decide) rfl dX12_hook_89 ?_
    refine sj_i (y := 2) ((up2_k _ _ (by decide)).trans (up2_at _ _ _ _)) ?_
    refine lv_if_le (tgt := 97) hx hb dX12_hook_92 (by decide) (fun h => absurd h (by decide)) (fun _ => ?_)
    refine lv_iconst (v := 0) hx hb dX12_hook_95 (by decide) ?_
    have hp_25 : ((up2 (up2 im_14 36 0 2) 36 2 0) 36 2).toInt = (0 : Int32).toInt := congrArg Int32.toInt ((up2_at _ _ _ _))
    have hl_26 : (0 : Int32).toInt = 0 := rfl
    have hV_27 : ((up2 (up2 im_14 36 0 2) 36 2 0) 36 2).toInt = 0 := (by omega)
    have hV_28 : hkM i (up2 (up2 im_14 36 0 2) 36 2 0) x.toInt y.toInt := (Or.inl ⟨fun q => hnk q.1, ((up2_o _ _ (by omega)).trans ((up2_o _ _ (by omega)).trans ((hfr_15 36 67 (by omega)).trans (hfr_5 36 67 (by omega))))), (funext fun b9 => ((up2_o _ _ (by omega)).trans ((up2_o _ _ (by omega)).trans ((hfr_15 416 b9 (by omega)).trans (hfr_5 416 b9 (by omega)))))), (funext fun b9 => ((up2_o _ _ (by omega)).trans ((up2_o _ _ (by omega)).trans ((hfr_15 417 b9 (by omega)).trans (hfr_5 417 b9 (by omega)))))), (funext fun b9 => ((up2_o _ _ (by omega)).trans ((up2_o _ _ (by omega)).trans ((hfr_15 420 b9 (by omega)).trans (hfr_5 420 b9 (by omega))))))⟩)
    exact sj_zret hx hb hr hlocks rfl hS (up2 (up2 im_14 36 0 2) 36 2 0) ⟨hO_24, (fun a b ha => ((up2_o _ _ (by omega)).trans ((up2_o _ _ (by omega)).trans ((hfr_15 a b (by omega)).trans (hfr_5 a b (by omega)))))), hV_27, hV_28⟩ hH (sj_Knil hK) (Nat.le_of_ble_eq_true rfl) (Nat.le_of_ble_eq_true rfl) dX12_hook_96
  · skip
    have h_29 := s_nlt (rfl : r_12.toInt = _) (show (0 : Int32).toInt = 0 from rfl) c_21
    have hkt := (htk.resolve_right (fun q => by have := q.1; omega)).2
    have hkt1 := hkt.1
    refine lv_iload_n hx hb dX12_hook_26 rfl (lv_at hl 2 rfl) ?_
    refine lv_if_lt (tgt := 40) hx hb dX12_hook_27 (by decide) (fun c_30 => ?_) (fun c_30 => ?_)
    · skip
      have h_31 := s_lt (rfl : y.toInt = _) (show (0 : Int32).toInt = 0 from rfl) c_30
      refine lv_iconst (v := 0) hx hb dX12_hook_40 (by decide) ?_
      refine lv_istore_n (lv' := [(3, .int 0), (0, .ref (g 36)), (1, .int x), (2, .int y)]) hx hb dX12_hook_41 rfl hl (by decide) rfl (fun ls hl => ?_)
      refine lv_aload_n hx hb dX12_hook_42 rfl (lv_at hl 1 rfl) ?_
      refine lv_iload_n hx hb dX12_hook_43 rfl (lv_at hl 0 rfl) ?_
      refine lv_if_ne (tgt := 51) hx hb dX12_hook_44 (by decide) (fun h => absurd (by decide) h) (fun _ => ?_)
      refine lv_iconst (v := 2) hx hb dX12_hook_47 (by decide) ?_
      refine lv_goto (tgt := 65) hx hb dX12_hook_48 (by decide) ?_
      have hO_32 := okp hO_16 (n := 36) (k := 0) (v := 2) (show (0 : Int) ≤ (2 : Int32).toInt ∧ (2 : Int32).toInt ≤ 3 from ⟨by decide, by decide⟩)
      refine h_puti (ty := .int) (ci := 12) (C := RX12) (F := TX12) (N := 86) hx hb hts in12 tyX12 tyX12_ok nmX12 hown hK hH hS (by decide) (rfl : kd 36 = 12) (by decide) rfl 0 (by decide) wd2 (fun _ h9 => h9) rfl (by decide +kernel) rfl rfl (by decide) rfl dX12_hook_65 (fun H locs hH hS => ?_)
      refine lv_aload_n hx hb dX12_hook_68 rfl (lv_at hl 1 rfl) ?_
      refine h_geti (ci := 12) (C := RX12) (F := TX12) (N := 86) hx hb hts in12 hown hK hH (by decide) (rfl : kd 36 = 12) (by decide) rfl 0 (by decide) wd2 (fun _ h9 => h9) (by decide) rfl dX12_hook_69 ?_
      refine sj_i (y := 2) (up2_at _ _ _ _) ?_
      refine lv_if_ne (tgt := 83) hx hb dX12_hook_72 (by decide) (fun _ => ?_) (fun h => absurd h (by decide))
      refine lv_aload_n hx hb dX12_hook_83 rfl (lv_at hl 1 rfl) ?_
      refine lv_iconst (v := 0) hx hb dX12_hook_84 (by decide) ?_
      have hO_33 := okp hO_32 (n := 36) (k := 2) (v := 0) (show (0 : Int) ≤ (0 : Int32).toInt ∧ (0 : Int32).toInt ≤ 480 from ⟨by decide, by decide⟩)
      refine h_puti (ty := .int) (ci := 12) (C := RX12) (F := TX12) (N := 86) hx hb hts in12 tyX12 tyX12_ok nmX12 hown hK hH hS (by decide) (rfl : kd 36 = 12) (by decide) rfl 2 (by decide) wd1 (fun _ h9 => h9) rfl (by decide +kernel) rfl rfl (by decide) rfl dX12_hook_85 (fun H locs hH hS => ?_)
      refine lv_aload_n hx hb dX12_hook_88 rfl (lv_at hl 1 rfl) ?_
      refine h_geti (ci := 12) (C := RX12) (F := TX12) (N := 86) hx hb hts in12 hown hK hH (by decide) (rfl : kd 36 = 12) (by decide) rfl 0 (by decide) wd2 (fun _ h9 => h9) (by decide) rfl dX12_hook_89 ?_
      refine sj_i (y := 2) ((up2_k _ _ (by decide)).trans (up2_at _ _ _ _)) ?_
      refine lv_if_le (tgt := 97) hx hb dX12_hook_92 (by decide) (fun h => absurd h (by decide)) (fun _ => ?_)
      refine lv_iconst (v := 0) hx hb dX12_hook_95 (by decide) ?_
      have hp_34 : ((up2 (up2 im_14 36 0 2) 36 2 0) 36 2).toInt = (0 : Int32).toInt := congrArg Int32.toInt ((up2_at _ _ _ _))
      have hl_35 : (0 : Int32).toInt = 0 := rfl
      have hV_36 : ((up2 (up2 im_14 36 0 2) 36 2 0) 36 2).toInt = 0 := (by omega)
      have hV_37 : hkM i (up2 (up2 im_14 36 0 2) 36 2 0) x.toInt y.toInt := (Or.inl ⟨fun q => by have q1 := q.2.1; have q2 := q.2.2; omega, ((up2_o _ _ (by omega)).trans ((up2_o _ _ (by omega)).trans ((hfr_15 36 67 (by omega)).trans (hfr_5 36 67 (by omega))))), (funext fun b9 => ((up2_o _ _ (by omega)).trans ((up2_o _ _ (by omega)).trans ((hfr_15 416 b9 (by omega)).trans (hfr_5 416 b9 (by omega)))))), (funext fun b9 => ((up2_o _ _ (by omega)).trans ((up2_o _ _ (by omega)).trans ((hfr_15 417 b9 (by omega)).trans (hfr_5 417 b9 (by omega)))))), (funext fun b9 => ((up2_o _ _ (by omega)).trans ((up2_o _ _ (by omega)).trans ((hfr_15 420 b9 (by omega)).trans (hfr_5 420 b9 (by omega))))))⟩)
      exact sj_zret hx hb hr hlocks rfl hS (up2 (up2 im_14 36 0 2) 36 2 0) ⟨hO_33, (fun a b ha => ((up2_o _ _ (by omega)).trans ((up2_o _ _ (by omega)).trans ((hfr_15 a b (by omega)).trans (hfr_5 a b (by omega)))))), hV_36, hV_37⟩ hH (sj_Knil hK) (Nat.le_of_ble_eq_true rfl) (Nat.le_of_ble_eq_true rfl) dX12_hook_96
    · skip
      have h_38 := s_nlt (rfl : y.toInt = _) (show (0 : Int32).toInt = 0 from rfl) c_30
      refine lv_iload_n hx hb dX12_hook_30 rfl (lv_at hl 2 rfl) ?_
      refine lv_bipush (v := 8) hx hb dX12_hook_31 (by decide) ?_
      refine lv_icmp_ge (tgt := 40) hx hb dX12_hook_33 (by decide) (fun c_39 => ?_) (fun c_39 => ?_)
      · skip
        have h_40 := s_le (show (8 : Int32).toInt = 8 from rfl) (rfl : y.toInt = _) c_39
        refine lv_iconst (v := 0) hx hb dX12_hook_40 (by decide) ?_
        refine lv_istore_n (lv' := [(3, .int 0), (0, .ref (g 36)), (1, .int x), (2, .int y)]) hx hb dX12_hook_41 rfl hl (by decide) rfl (fun ls hl => ?_)
        refine lv_aload_n hx hb dX12_hook_42 rfl (lv_at hl 1 rfl) ?_
        refine lv_iload_n hx hb dX12_hook_43 rfl (lv_at hl 0 rfl) ?_
        refine lv_if_ne (tgt := 51) hx hb dX12_hook_44 (by decide) (fun h => absurd (by decide) h) (fun _ => ?_)
        refine lv_iconst (v := 2) hx hb dX12_hook_47 (by decide) ?_
        refine lv_goto (tgt := 65) hx hb dX12_hook_48 (by decide) ?_
        have hO_41 := okp hO_16 (n := 36) (k := 0) (v := 2) (show (0 : Int) ≤ (2 : Int32).toInt ∧ (2 : Int32).toInt ≤ 3 from ⟨by decide, by decide⟩)
        refine h_puti (ty := .int) (ci := 12) (C := RX12) (F := TX12) (N := 86) hx hb hts in12 tyX12 tyX12_ok nmX12 hown hK hH hS (by decide) (rfl : kd 36 = 12) (by decide) rfl 0 (by decide) wd2 (fun _ h9 => h9) rfl (by decide +kernel) rfl rfl (by decide) rfl dX12_hook_65 (fun H locs hH hS => ?_)
        refine lv_aload_n hx hb dX12_hook_68 rfl (lv_at hl 1 rfl) ?_
        refine h_geti (ci := 12) (C := RX12) (F := TX12) (N := 86) hx hb hts in12 hown hK hH (by decide) (rfl : kd 36 = 12) (by decide) rfl 0 (by decide) wd2 (fun _ h9 => h9) (by decide) rfl dX12_hook_69 ?_
        refine sj_i (y := 2) (up2_at _ _ _ _) ?_
        refine lv_if_ne (tgt := 83) hx hb dX12_hook_72 (by decide) (fun _ => ?_) (fun h => absurd h (by decide))
        refine lv_aload_n hx hb dX12_hook_83 rfl (lv_at hl 1 rfl) ?_
        refine lv_iconst (v := 0) hx hb dX12_hook_84 (by decide) ?_
        have hO_42 := okp hO_41 (n := 36) (k := 2) (v := 0) (show (0 : Int) ≤ (0 : Int32).toInt ∧ (0 : Int32).toInt ≤ 480 from ⟨by decide, by decide⟩)
        refine h_puti (ty := .int) (ci := 12) (C := RX12) (F := TX12) (N := 86) hx hb hts in12 tyX12 tyX12_ok nmX12 hown hK hH hS (by decide) (rfl : kd 36 = 12) (by decide) rfl 2 (by decide) wd1 (fun _ h9 => h9) rfl (by decide +kernel) rfl rfl (by decide) rfl dX12_hook_85 (fun H locs hH hS => ?_)
        refine lv_aload_n hx hb dX12_hook_88 rfl (lv_at hl 1 rfl) ?_
        refine h_geti (ci := 12) (C := RX12) (F := TX12) (N := 86) hx hb hts in12 hown hK hH (by decide) (rfl : kd 36 = 12) (by decide) rfl 0 (by decide) wd2 (fun _ h9 => h9) (by decide) rfl dX12_hook_89 ?_
        refine sj_i (y := 2) ((up2_k _ _ (by decide)).trans (up2_at _ _ _ _)) ?_
        refine lv_if_le (tgt := 97) hx hb dX12_hook_92 (by decide) (fun h => absurd h (by decide)) (fun _ => ?_)
        refine lv_iconst (v := 0) hx hb dX12_hook_95 (by decide) ?_
        have hp_43 : ((up2 (up2 im_14 36 0 2) 36 2 0) 36 2).toInt = (0 : Int32).toInt := congrArg Int32.toInt ((up2_at _ _ _ _))
        have hl_44 : (0 : Int32).toInt = 0 := rfl
        have hV_45 : ((up2 (up2 im_14 36 0 2) 36 2 0) 36 2).toInt = 0 := (by omega)
        have hV_46 : hkM i (up2 (up2 im_14 36 0 2) 36 2 0) x.toInt y.toInt := (Or.inl ⟨fun q => by have q1 := q.2.1; have q2 := q.2.2; omega, ((up2_o _ _ (by omega)).trans ((up2_o _ _ (by omega)).trans ((hfr_15 36 67 (by omega)).trans (hfr_5 36 67 (by omega))))), (funext fun b9 => ((up2_o _ _ (by omega)).trans ((up2_o _ _ (by omega)).trans ((hfr_15 416 b9 (by omega)).trans (hfr_5 416 b9 (by omega)))))), (funext fun b9 => ((up2_o _ _ (by omega)).trans ((up2_o _ _ (by omega)).trans ((hfr_15 417 b9 (by omega)).trans (hfr_5 417 b9 (by omega)))))), (funext fun b9 => ((up2_o _ _ (by omega)).trans ((up2_o _ _ (by omega)).trans ((hfr_15 420 b9 (by omega)).trans (hfr_5 420 b9 (by omega))))))⟩)
        exact sj_zret hx hb hr hlocks rfl hS (up2 (up2 im_14 36 0 2) 36 2 0) ⟨hO_42, (fun a b ha => ((up2_o _ _ (by omega)).trans ((up2_o _ _ (by omega)).trans ((hfr_15 a b (by omega)).trans (hfr_5 a b (by omega)))))), hV_45, hV_46⟩ hH (sj_Knil hK) (Nat.le_of_ble_eq_true rfl) (Nat.le_of_ble_eq_true rfl) dX12_hook_96
      · skip
        have h_47 := s_nle (show (8 : Int32).toInt = 8 from rfl) (rfl : y.toInt = _) c_39
        refine lv_iconst (v := 1) hx hb dX12_hook_36 (by decide) ?_
        refine lv_goto (tgt := 41) hx hb dX12_hook_37 (by decide) ?_
        refine lv_istore_n (lv' := [(3, .int 1), (0, .ref (g 36)), (1, .int x), (2, .int y)]) hx hb dX12_hook_41 rfl hl (by decide) rfl (fun ls hl => ?_)
        refine lv_aload_n hx hb dX12_hook_42 rfl (lv_at hl 1 rfl) ?_
        refine lv_iload_n hx hb dX12_hook_43 rfl (lv_at hl 0 rfl) ?_
        refine lv_if_ne (tgt := 51) hx hb dX12_hook_44 (by decide) (fun _ => ?_) (fun h => absurd h (by decide))
        refine lv_aload_n hx hb dX12_hook_51 rfl (lv_at hl 1 rfl) ?_
        have bx_48 : (0 : Int) ≤ (i 36 67).toInt ∧ (i 36 67).toInt ≤ 8 := hO 36 67
        refine h_geti (ci := 12) (C := RX12) (F := TX12) (N := 86) hx hb hts in12 hown hK hH (by decide) (rfl : kd 36 = 12) (by decide) rfl 67 (by decide) wd3 (fun _ h9 => h9) (by decide) rfl dX12_hook_52 ?_
        refine sj_i (y := (i 36 67)) ((hfr_15 36 67 (by omega)).trans (hfr_5 36 67 (by omega))) ?_
        refine lv_bipush (v := 8) hx hb dX12_hook_55 (by decide) ?_
        refine lv_icmp_ne (tgt := 64) hx hb dX12_hook_57 (by decide) (fun c_49 => ?_) (fun c_49 => ?_)
        · skip
          have h_50 := s_ne (rfl : (i 36 67).toInt = _) (show (8 : Int32).toInt = 8 from rfl) c_49
          refine lv_iconst (v := 0) hx hb dX12_hook_64 (by decide) ?_
          have hO_51 := okp hO_16 (n := 36) (k := 0) (v := 0) (show (0 : Int) ≤ (0 : Int32).toInt ∧ (0 : Int32).toInt ≤ 3 from ⟨by decide, by decide⟩)
          refine h_puti (ty := .int) (ci := 12) (C := RX12) (F := TX12) (N := 86) hx hb hts in12 tyX12 tyX12_ok nmX12 hown hK hH hS (by decide) (rfl : kd 36 = 12) (by decide) rfl 0 (by decide) wd2 (fun _ h9 => h9) rfl (by decide +kernel) rfl rfl (by decide) rfl dX12_hook_65 (fun H locs hH hS => ?_)
          refine lv_aload_n hx hb dX12_hook_68 rfl (lv_at hl 1 rfl) ?_
          refine h_geti (ci := 12) (C := RX12) (F := TX12) (N := 86) hx hb hts in12 hown hK hH (by decide) (rfl : kd 36 = 12) (by decide) rfl 0 (by decide) wd2 (fun _ h9 => h9) (by decide) rfl dX12_hook_69 ?_
          refine sj_i (y := 0) (up2_at _ _ _ _) ?_
          refine lv_if_ne (tgt := 83) hx hb dX12_hook_72 (by decide) (fun h => absurd (by decide) h) (fun _ => ?_)
          refine lv_aload_n hx hb dX12_hook_75 rfl (lv_at hl 1 rfl) ?_
          refine lv_aload_n hx hb dX12_hook_76 rfl (lv_at hl 1 rfl) ?_
          refine h_geti (ci := 12) (C := RX12) (F := TX12) (N := 86) hx hb hts in12 hown hK hH (by decide) (rfl : kd 36 = 12) (by decide) rfl 67 (by decide) wd3 (fun _ h9 => h9) (by decide) rfl dX12_hook_77 ?_
          refine sj_i (y := (i 36 67)) ((up2_k _ _ (by decide)).trans ((hfr_15 36 67 (by omega)).trans (hfr_5 36 67 (by omega)))) ?_
          have hp_52 : ((up2 im_14 36 0 0) 36 2).toInt = ((i 36 2) : Int32).toInt := congrArg Int32.toInt (((up2_k _ _ (by decide)).trans ((hfr_15 36 2 (by omega)).trans (hfr_5 36 2 (by omega)))))
          refine x_callv (va_runV (As := [.int (i 36 67)]) (rest := []) ⟨hx, hb, hml, hown, hts⟩ (m_keep l D g ka ad (up2 im_14 36 0 0) r L d (i 36 67) hO_51 hR H.size (by first | omega | decide) (by first | omega | decide) (by omega)) (cwV 1 hts gX12_hook_X12_keep rfl rfl rfl (by decide +kernel) ⟨(Nat.le_of_ble_eq_true rfl), (Nat.le_of_ble_eq_true rfl)⟩) (x_preV (q := (RX12, TX12, 86)) hH hK (q_obj (by decide) (rfl : kd 36 = 12) (by decide)) rfl gxb (gxw hE hS (x_F hH hS hA))) rfl rfl hl.1 rfl (lv_room (Nat.le_of_ble_eq_true rfl)) dX12_hook_80 ⟨(Nat.le_of_ble_eq_true rfl), (Nat.le_of_ble_eq_true rfl)⟩) hH hS hA rfl rfl (fun im_55 H locs hw_54 hH hS => ?_)
          have hH : sj_H D A (hwc g ka im_55 r L d) H := hH
          obtain ⟨hO_57, hfr_56, hx2_58, hx2_59, hx2_60, hx2_61⟩ := hw_54
          refine lv_aload_n hx hb dX12_hook_83 rfl (lv_at hl 1 rfl) ?_
          refine lv_iconst (v := 0) hx hb dX12_hook_84 (by decide) ?_
          have hO_62 := okp hO_57 (n := 36) (k := 2) (v := 0) (show (0 : Int) ≤ (0 : Int32).toInt ∧ (0 : Int32).toInt ≤ 480 from ⟨by decide, by decide⟩)
          refine h_puti (ty := .int) (ci := 12) (C := RX12) (F := TX12) (N := 86) hx hb hts in12 tyX12 tyX12_ok nmX12 hown hK hH hS (by decide) (rfl : kd 36 = 12) (by decide) rfl 2 (by decide) wd1 (fun _ h9 => h9) rfl (by decide +kernel) rfl rfl (by decide) rfl dX12_hook_85 (fun H locs hH hS => ?_)
          refine lv_aload_n hx hb dX12_hook_88 rfl (lv_at hl 1 rfl) ?_
          refine h_geti (ci := 12) (C := RX12) (F := TX12) (N := 86) hx hb hts in12 hown hK hH (by decide) (rfl : kd 36 = 12) (by decide) rfl 0 (by decide) wd2 (fun _ h9 => h9) (by decide) rfl dX12_hook_89 ?_
          refine sj_i (y := 0) ((up2_k _ _ (by decide)).trans ((hfr_56 36 0 (by omega)).trans (up2_at _ _ _ _))) ?_
          refine lv_if_le (tgt := 97) hx hb dX12_hook_92 (by decide) (fun _ => ?_) (fun h => absurd (by decide) h)
          refine lv_aload_n hx hb dX12_hook_97 rfl (lv_at hl 1 rfl) ?_
          refine h_getr (ci := 12) (C := RX12) (F := TX12) (N := 86) hx hb hts in12 hown hK hH (by decide) (rfl : kd 36 = 12) (by decide) rfl 68 (by decide) wd4 (fun _ h9 => h9) (by decide) rfl (t := 420) (hR 36 68 rfl) (by decide) dX12_hook_98 ?_
          refine lv_aload_n hx hb dX12_hook_101 rfl (lv_at hl 1 rfl) ?_
          refine h_geti (ci := 12) (C := RX12) (F := TX12) (N := 86) hx hb hts in12 hown hK hH (by decide) (rfl : kd 36 = 12) (by decide) rfl 67 (by decide) wd3 (fun _ h9 => h9) (by decide) rfl dX12_hook_102 ?_
          refine sj_i (y := (i 36 67)) ((up2_k _ _ (by decide)).trans ((hfr_56 36 67 (by omega)).trans ((up2_k _ _ (by decide)).trans ((hfr_15 36 67 (by omega)).trans (hfr_5 36 67 (by omega)))))) ?_
          refine lv_iload_n hx hb dX12_hook_105 rfl (lv_at hl 2 rfl) ?_
          obtain ⟨z_63, ez_63⟩ : ∃ z, vp_nar .boolean x = z := ⟨_, rfl⟩
          have hz_63 : z_63.toInt = x.toInt := by rw [← ez_63, s_narb (rfl : x.toInt = _) (by omega) (by omega)] <;> exact (rfl : x.toInt = _)
          have hO_64 := okp hO_62 (n := 420) (k := ((i 36 67).toInt).toNat) (v := z_63) (show (0 : Int) ≤ (z_63 : Int32).toInt ∧ (z_63 : Int32).toInt ≤ 1 from ⟨by omega, by omega⟩)
          refine h_zast hx hb hK hH hS (by decide) (rfl : kd 420 = 15) (s_vin (N := 8) (rfl : (i 36 67).toInt = _) (rfl : ln 420 = 8) (by omega) (by omega)) dX12_hook_106 (fun H locs hH hS => ?_)
          rw [ez_63] at hH
          rw [s_cl (show (i 36 67).toInt = (i 36 67).toInt by omega)] at hH
          refine lv_aload_n hx hb dX12_hook_107 rfl (lv_at hl 1 rfl) ?_
          refine h_getr (ci := 12) (C := RX12) (F := TX12) (N := 86) hx hb hts in12 hown hK hH (by decide) (rfl : kd 36 = 12) (by decide) rfl 69 (by decide) wd5 (fun _ h9 => h9) (by decide) rfl (t := 421) (hR 36 69 rfl) (by decide) dX12_hook_108 ?_
          refine lv_aload_n hx hb dX12_hook_111 rfl (lv_at hl 1 rfl) ?_
          refine h_geti (ci := 12) (C := RX12) (F := TX12) (N := 86) hx hb hts in12 hown hK hH (by decide) (rfl : kd 36 = 12) (by decide) rfl 67 (by decide) wd3 (fun _ h9 => h9) (by decide) rfl dX12_hook_112 ?_
          refine sj_i (y := (i 36 67)) ((congrFun (up2_n _ _ (by decide)) _).trans ((up2_k _ _ (by decide)).trans ((hfr_56 36 67 (by omega)).trans ((up2_k _ _ (by decide)).trans ((hfr_15 36 67 (by omega)).trans (hfr_5 36 67 (by omega))))))) ?_
          refine lv_iload_n hx hb dX12_hook_115 rfl (lv_at hl 3 rfl) ?_
          have hO_65 := okp hO_64 (n := 421) (k := ((i 36 67).toInt).toNat) (v := y) (show (0 : Int) ≤ (y : Int32).toInt ∧ (y : Int32).toInt ≤ 7 from ⟨by omega, by omega⟩)
          refine h_iast hx hb hK hH hS (by decide) (rfl : kd 421 = 13) (s_vin (N := 8) (rfl : (i 36 67).toInt = _) (rfl : ln 421 = 8) (by omega) (by omega)) dX12_hook_116 (fun H locs hH hS => ?_)
          rw [s_cl (show (i 36 67).toInt = (i 36 67).toInt by omega)] at hH
          refine lv_aload_n hx hb dX12_hook_117 rfl (lv_at hl 1 rfl) ?_
          refine lv_dup hx hb dX12_hook_118 rfl ?_
          refine h_geti (ci := 12) (C := RX12) (F := TX12) (N := 86) hx hb hts in12 hown hK hH (by decide) (rfl : kd 36 = 12) (by decide) rfl 67 (by decide) wd3 (fun _ h9 => h9) (by decide) rfl dX12_hook_119 ?_
          refine sj_i (y := (i 36 67)) ((congrFun (up2_n _ _ (by decide)) _).trans ((congrFun (up2_n _ _ (by decide)) _).trans ((up2_k _ _ (by decide)).trans ((hfr_56 36 67 (by omega)).trans ((up2_k _ _ (by decide)).trans ((hfr_15 36 67 (by omega)).trans (hfr_5 36 67 (by omega)))))))) ?_
          refine lv_iconst (v := 1) hx hb dX12_hook_122 (by decide) ?_
          refine lv_iadd hx hb dX12_hook_123 ?_
          obtain ⟨z_66, ez_66, hz_66⟩ := s_add (rfl : (i 36 67).toInt = _) (show (1 : Int32).toInt = 1 from rfl) (by omega) (by omega)
          refine sj_i ez_66 ?_
          have hO_67 := okp hO_65 (n := 36) (k := 67) (v := z_66) (show (0 : Int) ≤ (z_66 : Int32).toInt ∧ (z_66 : Int32).toInt ≤ 8 from ⟨by omega, by omega⟩)
          refine h_puti (ty := .int) (ci := 12) (C := RX12) (F := TX12) (N := 86) hx hb hts in12 tyX12 tyX12_ok nmX12 hown hK hH hS (by decide) (rfl : kd 36 = 12) (by decide) rfl 67 (by decide) wd3 (fun _ h9 => h9) rfl (by decide +kernel) rfl rfl (by decide) rfl dX12_hook_124 (fun H locs hH hS => ?_)
          refine lv_aload_n hx hb dX12_hook_127 rfl (lv_at hl 1 rfl) ?_
          refine h_geti (ci := 12) (C := RX12) (F := TX12) (N := 86) hx hb hts in12 hown hK hH (by decide) (rfl : kd 36 = 12) (by decide) rfl 67 (by decide) wd3 (fun _ h9 => h9) (by decide) rfl dX12_hook_128 ?_
          refine sj_i (y := z_66) (up2_at _ _ _ _) ?_
          refine lv_iconst (v := 1) hx hb dX12_hook_131 (by decide) ?_
          refine lv_isub hx hb dX12_hook_132 ?_
          obtain ⟨z_68, ez_68, hz_68⟩ := s_sub (rfl : z_66.toInt = _) (show (1 : Int32).toInt = 1 from rfl) (by omega) (by omega)
          refine sj_i ez_68 ?_
          have hp_69 : ((up2 (up2 (up2 (up2 im_55 36 2 0) 420 ((i 36 67).toInt).toNat z_63) 421 ((i 36 67).toInt).toNat y) 36 67 z_66) 36 2).toInt = (0 : Int32).toInt := congrArg Int32.toInt (((up2_k _ _ (by decide)).trans ((congrFun (up2_n _ _ (by decide)) _).trans ((congrFun (up2_n _ _ (by decide)) _).trans (up2_at _ _ _ _)))))
          have hl_70 : (0 : Int32).toInt = 0 := rfl
          have hV_71 : ((up2 (up2 (up2 (up2 im_55 36 2 0) 420 ((i 36 67).toInt).toNat z_63) 421 ((i 36 67).toInt).toNat y) 36 67 z_66) 36 2).toInt = 0 := (by omega)
          have ha16 : (up2 (up2 (up2 (up2 im_55 36 2 0) 420 ((i 36 67).toInt).toNat z_63) 421 ((i 36 67).toInt).toNat y) 36 67 z_66) 416 = im_55 416 := (funext fun b9 => ((up2_o _ _ (by omega)).trans ((up2_o _ _ (by omega)).trans ((up2_o _ _ (by omega)).trans (up2_o _ _ (by omega))))))
          have ha17 : (up2 (up2 (up2 (up2 im_55 36 2 0) 420 ((i 36 67).toInt).toNat z_63) 421 ((i 36 67).toInt).toNat y) 36 67 z_66) 417 = im_55 417 := (funext fun b9 => ((up2_o _ _ (by omega)).trans ((up2_o _ _ (by omega)).trans ((up2_o _ _ (by omega)).trans (up2_o _ _ (by omega))))))
          have hkxe : ((i 36 67) : Int32).toInt = (i 36 67).toInt := rfl
          have hkz : ((up2 im_14 36 0 0) 36 2).toInt = (i 36 2).toInt := congrArg Int32.toInt (show (up2 im_14 36 0 0) 36 2 = i 36 2 from ((up2_o _ _ (by omega)).trans ((hfr_15 36 2 (by omega)).trans (hfr_5 36 2 (by omega)))))
          have hnew : tgLM (up2 (up2 (up2 (up2 im_55 36 2 0) 420 ((i 36 67).toInt).toNat z_63) 421 ((i 36 67).toInt).toNat y) 36 67 z_66) (i 36 67).toInt.toNat = mTx i := tgLM_new (x := (i 36 67).toInt) (by omega) (by omega) (by
              rw [ha17]
              have h9 := hx2_58
              rw [hkxe, hkz] at h9
              exact h9) (by
              intro k hk
              have h9 := hx2_60 k (by omega)
              rw [hkxe] at h9
              rw [ha16, h9]
              exact congrArg Int32.toInt (show (up2 im_14 36 0 0) 379 k = i 379 k from ((up2_o _ _ (by omega)).trans ((hfr_15 379 k (by omega)).trans (hfr_5 379 k (by omega))))))
          have hold : ∀ h : Nat, h ≠ (i 36 67).toInt.toNat → tgLM (up2 (up2 (up2 (up2 im_55 36 2 0) 420 ((i 36 67).toInt).toNat z_63) 421 ((i 36 67).toInt).toNat y) 36 67 z_66) h = tgLM i h := tgLM_old (x := (i 36 67).toInt) (by omega) (fun k => (hO 417 k).2) (by
              intro k hk
              have h9 := hx2_59 k (by rw [hkxe]; exact hk)
              rw [ha17, h9]
              exact ((up2_o _ _ (by omega)).trans ((hfr_15 417 k (by omega)).trans (hfr_5 417 k (by omega))))) (by
              intro k hk
              have h9 := hx2_61 k (by rw [hkxe]; exact hk)
              rw [ha16, h9]
              exact ((up2_o _ _ (by omega)).trans ((hfr_15 416 k (by omega)).trans (hfr_5 416 k (by omega)))))
          have hp_72 : ((up2 (up2 (up2 (up2 im_55 36 2 0) 420 ((i 36 67).toInt).toNat z_63) 421 ((i 36 67).toInt).toNat y) 36 67 z_66) 36 67).toInt = (z_66 : Int32).toInt := congrArg Int32.toInt ((up2_at _ _ _ _))
          have hq20 : ((up2 (up2 (up2 (up2 im_55 36 2 0) 420 ((i 36 67).toInt).toNat z_63) 421 ((i 36 67).toInt).toNat y) 36 67 z_66) 420 (i 36 67).toInt.toNat).toInt = (z_63 : Int32).toInt := congrArg Int32.toInt (((congrFun (up2_n _ _ (by decide)) _).trans ((congrFun (up2_n _ _ (by decide)) _).trans (up2_at _ _ _ _))))
          have hV_73 : hkM i (up2 (up2 (up2 (up2 im_55 36 2 0) 420 ((i 36 67).toInt).toNat z_63) 421 ((i 36 67).toInt).toNat y) 36 67 z_66) x.toInt y.toInt := (Or.inr ⟨⟨hkt, ⟨by omega, by omega⟩, by omega⟩, by omega, hnew, by omega, fun h hh => ⟨hold h hh, ((up2_o _ _ (by omega)).trans ((up2_o _ _ (by omega)).trans ((up2_o _ _ (by omega)).trans ((up2_o _ _ (by omega)).trans ((hfr_56 420 h (by omega)).trans ((up2_o _ _ (by omega)).trans ((hfr_15 420 h (by omega)).trans (hfr_5 420 h (by omega)))))))))⟩⟩)
          exact sj_zret hx hb hr hlocks rfl hS (up2 (up2 (up2 (up2 im_55 36 2 0) 420 ((i 36 67).toInt).toNat z_63) 421 ((i 36 67).toInt).toNat y) 36 67 z_66) ⟨hO_67, (fun a b ha => ((up2_o _ _ (by omega)).trans ((up2_o _ _ (by omega)).trans ((up2_o _ _ (by omega)).trans ((up2_o _ _ (by omega)).trans ((hfr_56 a b (by omega)).trans ((up2_o _ _ (by omega)).trans ((hfr_15 a b (by omega)).trans (hfr_5 a b (by omega)))))))))), hV_71, hV_73⟩ hH (sj_Knil hK) (Nat.le_of_ble_eq_true rfl) (Nat.le_of_ble_eq_true rfl) dX12_hook_133
        · skip
          have h_74 := s_eq (rfl : (i 36 67).toInt = _) (show (8 : Int32).toInt = 8 from rfl) c_49
          refine lv_iconst (v := 3) hx hb dX12_hook_60 (by decide) ?_
          refine lv_goto (tgt := 65) hx hb dX12_hook_61 (by decide) ?_
          have hO_75 := okp hO_16 (n := 36) (k := 0) (v := 3) (show (0 : Int) ≤ (3 : Int32).toInt ∧ (3 : Int32).toInt ≤ 3 from ⟨by decide, by decide⟩)
          refine h_puti (ty := .int) (ci := 12) (C := RX12) (F := TX12) (N := 86) hx hb hts in12 tyX12 tyX12_ok nmX12 hown hK hH hS (by decide) (rfl : kd 36 = 12) (by decide) rfl 0 (by decide) wd2 (fun _ h9 => h9) rfl (by decide +kernel) rfl rfl (by decide) rfl dX12_hook_65 (fun H locs hH hS => ?_)
          refine lv_aload_n hx hb dX12_hook_68 rfl (lv_at hl 1 rfl) ?_
          refine h_geti (ci := 12) (C := RX12) (F := TX12) (N := 86) hx hb hts in12 hown hK hH (by decide) (rfl : kd 36 = 12) (by decide) rfl 0 (by decide) wd2 (fun _ h9 => h9) (by decide) rfl dX12_hook_69 ?_
          refine sj_i (y := 3) (up2_at _ _ _ _) ?_
          refine lv_if_ne (tgt := 83) hx hb dX12_hook_72 (by decide) (fun _ => ?_) (fun h => absurd h (by decide))
          refine lv_aload_n hx hb dX12_hook_83 rfl (lv_at hl 1 rfl) ?_
          refine lv_iconst (v := 0) hx hb dX12_hook_84 (by decide) ?_
          have hO_76 := okp hO_75 (n := 36) (k := 2) (v := 0) (show (0 : Int) ≤ (0 : Int32).toInt ∧ (0 : Int32).toInt ≤ 480 from ⟨by decide, by decide⟩)
          refine h_puti (ty := .int) (ci := 12) (C := RX12) (F := TX12) (N := 86) hx hb hts in12 tyX12 tyX12_ok nmX12 hown hK hH hS (by decide) (rfl : kd 36 = 12) (by decide) rfl 2 (by decide) wd1 (fun _ h9 => h9) rfl (by decide +kernel) rfl rfl (by decide) rfl dX12_hook_85 (fun H locs hH hS => ?_)
          refine lv_aload_n hx hb dX12_hook_88 rfl (lv_at hl 1 rfl) ?_
          refine h_geti (ci := 12) (C := RX12) (F := TX12) (N := 86) hx hb hts in12 hown hK hH (by decide) (rfl : kd 36 = 12) (by decide) rfl 0 (by decide) wd2 (fun _ h9 => h9) (by decide) rfl dX12_hook_89 ?_
          refine sj_i (y := 3) ((up2_k _ _ (by decide)).trans (up2_at _ _ _ _)) ?_
          refine lv_if_le (tgt := 97) hx hb dX12_hook_92 (by decide) (fun h => absurd h (by decide)) (fun _ => ?_)
          refine lv_iconst (v := 0) hx hb dX12_hook_95 (by decide) ?_
          have hp_77 : ((up2 (up2 im_14 36 0 3) 36 2 0) 36 2).toInt = (0 : Int32).toInt := congrArg Int32.toInt ((up2_at _ _ _ _))
          have hl_78 : (0 : Int32).toInt = 0 := rfl
          have hV_79 : ((up2 (up2 im_14 36 0 3) 36 2 0) 36 2).toInt = 0 := (by omega)
          have hV_80 : hkM i (up2 (up2 im_14 36 0 3) 36 2 0) x.toInt y.toInt := (Or.inl ⟨fun q => by have q1 := q.2.1; have q2 := q.2.2; omega, ((up2_o _ _ (by omega)).trans ((up2_o _ _ (by omega)).trans ((hfr_15 36 67 (by omega)).trans (hfr_5 36 67 (by omega))))), (funext fun b9 => ((up2_o _ _ (by omega)).trans ((up2_o _ _ (by omega)).trans ((hfr_15 416 b9 (by omega)).trans (hfr_5 416 b9 (by omega)))))), (funext fun b9 => ((up2_o _ _ (by omega)).trans ((up2_o _ _ (by omega)).trans ((hfr_15 417 b9 (by omega)).trans (hfr_5 417 b9 (by omega)))))), (funext fun b9 => ((up2_o _ _ (by omega)).trans ((up2_o _ _ (by omega)).trans ((hfr_15 420 b9 (by omega)).trans (hfr_5 420 b9 (by omega))))))⟩)
          exact sj_zret hx hb hr hlocks rfl hS (up2 (up2 im_14 36 0 3) 36 2 0) ⟨hO_76, (fun a b ha => ((up2_o _ _ (by omega)).trans ((up2_o _ _ (by omega)).trans ((hfr_15 a b (by omega)).trans (hfr_5 a b (by omega)))))), hV_79, hV_80⟩ hH (sj_Knil hK) (Nat.le_of_ble_eq_true rfl) (Nat.le_of_ble_eq_true rfl) dX12_hook_96
set_option maxHeartbeats 2000000 in
set_option maxRecDepth 100000 in
theorem m_filter1 (l : Launch) (D : va_G) (g : Nat → Nat) (ka : Nat → ClassId) (ad : Nat → Nat) (i : Nat → Nat → Int32) (r : Nat → Nat → Nat) (L : Nat → Nat → Int64) (d : Nat → Nat → UInt64)  (hO : OkI i) (hR : RS r) (sz : Nat) (hb76 : (i 36 76).toInt = 0) : Met l yX12_filter wsX12_filter ({ frames := 6, cells := 0, slots := 0, locals := 135 }) (va_Pc [.ref (g 36)] (sj_B D (hwc g ka i r L d) (hT ka) sz (gx ad (va_A (hwc g ka i r L d) sz)))) (sj_Qi (S := (Nat → Nat → Int32)) D (fun v u => OkI u ∧ (∀ a b, ¬ ((a = 36 ∧ (b = 0 ∨ b = 2 ∨ b = 65 ∨ b = 66)) ∨ a = 416 ∨ a = 417 ∨ a = 418 ∨ a = 419) → u a b = i a b) ∧ ((u 36 2).toInt = 0) ∧ (ftM i u)) (fun u => hwc g ka u r L d) (fun _ => []) (va_A (hwc g ka i r L d) sz)) 0 0 (va_A (hwc g ka i r L d) sz) := by
  refine x_met (Ex := gx ad) (cc := cX12_filter) (maxL := 1) (ret := (some .int)) (by decide) rfl (Nat.le_of_ble_eq_true rfl) ?_
  intro p e s m below meth c A ls hx hb hr hml hts hown hlocks hA hS hH hK hE hl
  have hown : s.vm.findClass RX12 = some m.cls := hown
  have in12 : ∀ w ∈ wsX120, w ∈ wsX12_filter := (fun _ h => (List.mem_cons_of_mem _ (List.mem_append_right _ h)))
  have wd0 := hts (.fieldLink RX12 12 "StoryDeskModel" "text" "[C") (List.mem_cons_of_mem _ (List.mem_append_left _ (List.mem_append_left _ lm0)))
  have wd1 := hts (.fieldLink RX12 7 "StoryDeskModel" "size" "I") (List.mem_cons_of_mem _ (List.mem_append_left _ (List.mem_append_left _ lm1)))
  have wd2 := hts (.fieldLink RX12 1 "StoryDeskModel" "thrown" "I") (List.mem_cons_of_mem _ (List.mem_append_left _ (List.mem_append_left _ lm2)))
  have hl : lv_has ls 1 [(0, .ref (g 36))] := hl
  have hK : va_K D vwCl (hT ka) s := hK
  have hb2 : (0 : Int) ≤ (i 36 2).toInt ∧ (i 36 2).toInt ≤ 480 := hO 36 2
  refine lv_aload_n hx hb dX12_filter_0 rfl (lv_at hl 0 rfl) ?_
  refine x_calli (va_runV (As := []) (rest := []) ⟨hx, hb, hml, hown, hts⟩ (m_busy l D g ka ad i r L d  hO hR s.heap.size ) (cwV 0 hts gX12_filter_X12_busy rfl rfl rfl (by decide +kernel) ⟨(Nat.le_of_ble_eq_true rfl), (Nat.le_of_ble_eq_true rfl)⟩) (x_preV (q := (RX12, TX12, 86)) hH hK (q_obj (by decide) (rfl : kd 36 = 12) (by decide)) rfl gxb (gxw hE hS (x_F hH hS hA))) rfl rfl hl.1 rfl (lv_room (Nat.le_of_ble_eq_true rfl)) dX12_filter_1 ⟨(Nat.le_of_ble_eq_true rfl), (Nat.le_of_ble_eq_true rfl)⟩) hH hS hA rfl rfl (fun r_1 im_3 H locs hw_2 hH hS => ?_)
  have hH : sj_H D A (hwc g ka im_3 r L d) H := hH
  obtain ⟨hO_5, hfr_4, hr_6, he_7⟩ := hw_2
  have hr_6 : (0 : Int) ≤ r_1.toInt ∧ r_1.toInt ≤ 1 := hr_6
  refine lv_if_eq (tgt := 9) hx hb dX12_filter_4 (by decide) (fun _ => ?_) (fun h => absurd (p_eq (rfl : r_1.toInt = _) (show (0 : Int32).toInt = 0 from rfl) (by omega)) h)
  refine lv_aload_n hx hb dX12_filter_9 rfl (lv_at hl 0 rfl) ?_
  refine lv_aload_n hx hb dX12_filter_10 rfl (lv_at hl 0 rfl) ?_
  refine lv_aload_n hx hb dX12_filter_11 rfl (lv_at hl 0 rfl) ?_
  refine h_getr (ci := 12) (C := RX12) (F := TX12) (N := 86) hx hb hts in12 hown hK hH (by decide) (rfl : kd 36 = 12) (by decide) rfl 1 (by decide) wd0 (fun _ h9 => h9) (by decide) rfl (t := 379) (hR 36 1 rfl) (by decide) dX12_filter_12 ?_
  refine lv_iconst (v := 0) hx hb dX12_filter_15 (by decide) ?_
  refine lv_aload_n hx hb dX12_filter_16 rfl (lv_at hl 0 rfl) ?_
  have bx_8 : (0 : Int) ≤ (i 36 2).toInt ∧ (i 36 2).toInt ≤ 480 := hO 36 2
  refine h_geti (ci := 12) (C := RX12) (F := TX12) (N := 86) hx hb hts in12 hown hK hH (by decide) (rfl : kd 36 = 12) (by decide) rfl 2 (by decide) wd1 (fun _ h9 => h9) (by decide) rfl dX12_filter_17 ?_
  refine sj_i (y := (i 36 2)) (hfr_4 36 2 (by omega)) ?_
  refine lv_iconst (v := 0) hx hb dX12_filter_20 (by decide) ?_
  have hl_9 : (0 : Int32).toInt = 0 := rfl
  have hl_10 : (0 : Int32).toInt = 0 := rfl
  refine x_calli (va_runV (As := [.ref (g 379), .int 0, .int (i 36 2), .int 0]) (rest := [.ref (g 36)]) ⟨hx, hb, hml, hown, hts⟩ (m_test_text l D g ka ad im_3 r L d 0 (i 36 2) 0 hO_5 hR H.size (by first | omega | decide) (by first | omega | decide) (by first | omega | decide) (by first | omega | decide) (by first | omega | decide)) (cwV 4 hts gX12_filter_X12_test rfl rfl rfl (by decide +kernel) ⟨(Nat.le_of_ble_eq_true rfl), (Nat.le_of_ble_eq_true rfl)⟩) (x_preV (q := (RX12, TX12, 86)) hH hK (q_obj (by decide) (rfl : kd 36 = 12) (by decide)) rfl gxb (gxw hE hS (x_F hH hS hA))) rfl rfl hl.1 rfl (lv_room (Nat.le_of_ble_eq_true rfl)) dX12_filter_21 ⟨(Nat.le_of_ble_eq_true rfl), (Nat.le_of_ble_eq_true rfl)⟩) hH hS hA rfl rfl (fun r_11 im_13 H locs hw_12 hH hS => ?_)
  have hH : sj_H D A (hwc g ka im_13 r L d) H := hH
  obtain ⟨hO_15, hfr_14, hr_16, hx2_17, hx2_18, hx2_19⟩ := hw_12
  have hr_16 : (-1 : Int) ≤ r_11.toInt ∧ r_11.toInt ≤ 1 := hr_16
  have e379 : im_3 379 = i 379 := funext fun b9 => (hfr_4 379 b9 (by omega))
  rw [e379] at hx2_18
  rw [e379] at hx2_19
  have htk := mTk_v (i := i) (v := (r_11 : Int32).toInt) rfl (hx2_17) (hx2_18) (hx2_19)
  refine lv_if_lt (tgt := 31) hx hb dX12_filter_24 (by decide) (fun c_20 => ?_) (fun c_20 => ?_)
  · skip
    have h_21 := s_lt (rfl : r_11.toInt = _) (show (0 : Int32).toInt = 0 from rfl) c_20
    have hnk := (htk.resolve_left (fun q => by have := q.1; omega)).2
    refine lv_iconst (v := 2) hx hb dX12_filter_31 (by decide) ?_
    have hO_22 := okp hO_15 (n := 36) (k := 0) (v := 2) (show (0 : Int) ≤ (2 : Int32).toInt ∧ (2 : Int32).toInt ≤ 3 from ⟨by decide, by decide⟩)
    refine h_puti (ty := .int) (ci := 12) (C := RX12) (F := TX12) (N := 86) hx hb hts in12 tyX12 tyX12_ok nmX12 hown hK hH hS (by decide) (rfl : kd 36 = 12) (by decide) rfl 0 (by decide) wd2 (fun _ h9 => h9) rfl (by decide +kernel) rfl rfl (by decide) rfl dX12_filter_32 (fun H locs hH hS => ?_)
    refine lv_aload_n hx hb dX12_filter_35 rfl (lv_at hl 0 rfl) ?_
    refine h_geti (ci := 12) (C := RX12) (F := TX12) (N := 86) hx hb hts in12 hown hK hH (by decide) (rfl : kd 36 = 12) (by decide) rfl 0 (by decide) wd2 (fun _ h9 => h9) (by decide) rfl dX12_filter_36 ?_
    refine sj_i (y := 2) (up2_at _ _ _ _) ?_
    refine lv_if_ne (tgt := 48) hx hb dX12_filter_39 (by decide) (fun _ => ?_) (fun h => absurd h (by decide))
    refine lv_aload_n hx hb dX12_filter_48 rfl (lv_at hl 0 rfl) ?_
    refine lv_iconst (v := 0) hx hb dX12_filter_49 (by decide) ?_
    have hO_23 := okp hO_22 (n := 36) (k := 2) (v := 0) (show (0 : Int) ≤ (0 : Int32).toInt ∧ (0 : Int32).toInt ≤ 480 from ⟨by decide, by decide⟩)
    refine h_puti (ty := .int) (ci := 12) (C := RX12) (F := TX12) (N := 86) hx hb hts in12 tyX12 tyX12_ok nmX12 hown hK hH hS (by decide) (rfl : kd 36 = 12) (by decide) rfl 2 (by decide) wd1 (fun _ h9 => h9) rfl (by decide +kernel) rfl rfl (by decide) rfl dX12_filter_50 (fun H locs hH hS => ?_)
    refine lv_aload_n hx hb dX12_filter_53 rfl (lv_at hl 0 rfl) ?_
    refine h_geti (ci := 12) (C := RX12) (F := TX12) (N := 86) hx hb hts in12 hown hK hH (by decide) (rfl : kd 36 = 12) (by decide) rfl 0 (by decide) wd2 (fun _ h9 => h9) (by decide) rfl dX12_filter_54 ?_
    refine sj_i (y := 2) ((up2_k _ _ (by decide)).trans (up2_at _ _ _ _)) ?_
    refine lv_if_le (tgt := 64) hx hb dX12_filter_57 (by decide) (fun h => absurd h (by decide)) (fun _ => ?_)
    refine lv_iconst (v := 0) hx hb dX12_filter_60 (by decide) ?_
    refine lv_goto (tgt := 68) hx hb dX12_filter_61 (by decide) ?_
    have hp_24 : ((up2 (up2 im_13 36 0 2) 36 2 0) 36 2).toInt = (0 : Int32).toInt := congrArg Int32.toInt ((up2_at _ _ _ _))
    have hl_25 : (0 : Int32).toInt = 0 := rfl
    have hV_26 : ((up2 (up2 im_13 36 0 2) 36 2 0) 36 2).toInt = 0 := (by omega)
    have hV_27 : ftM i (up2 (up2 im_13 36 0 2) 36 2 0) := (Or.inl ⟨fun q => hnk q, (funext fun b9 => ((up2_o _ _ (by omega)).trans ((up2_o _ _ (by omega)).trans ((hfr_14 416 b9 (by omega)).trans (hfr_4 416 b9 (by omega)))))), (funext fun b9 => ((up2_o _ _ (by omega)).trans ((up2_o _ _ (by omega)).trans ((hfr_14 417 b9 (by omega)).trans (hfr_4 417 b9 (by omega))))))⟩)
    exact sj_zret hx hb hr hlocks rfl hS (up2 (up2 im_13 36 0 2) 36 2 0) ⟨hO_23, (fun a b ha => ((up2_o _ _ (by omega)).trans ((up2_o _ _ (by omega)).trans ((hfr_14 a b (by omega)).trans (hfr_4 a b (by omega)))))), hV_26, hV_27⟩ hH (sj_Knil hK) (Nat.le_of_ble_eq_true rfl) (Nat.le_of_ble_eq_true rfl) dX12_filter_68
  · skip
    have h_28 := s_nlt (rfl : r_11.toInt = _) (show (0 : Int32).toInt = 0 from rfl) c_20
    have hkt := (htk.resolve_right (fun q => by have := q.1; omega)).2
    have hkt1 := hkt.1
    refine lv_iconst (v := 0) hx hb dX12_filter_27 (by decide) ?_
    refine lv_goto (tgt := 32) hx hb dX12_filter_28 (by decide) ?_
    have hO_29 := okp hO_15 (n := 36) (k := 0) (v := 0) (show (0 : Int) ≤ (0 : Int32).toInt ∧ (0 : Int32).toInt ≤ 3 from ⟨by decide, by decide⟩)
    refine h_puti (ty := .int) (ci := 12) (C := RX12) (F := TX12) (N := 86) hx hb hts in12 tyX12 tyX12_ok nmX12 hown hK hH hS (by decide) (rfl : kd 36 = 12) (by decide) rfl 0 (by decide) wd2 (fun _ h9 => h9) rfl (by decide +kernel) rfl rfl (by decide) rfl dX12_filter_32 (fun H locs hH hS => ?_)
    refine lv_aload_n hx hb dX12_filter_35 rfl (lv_at hl 0 rfl) ?_
    refine h_geti (ci := 12) (C := RX12) (F := TX12) (N := 86) hx hb hts in12 hown hK hH (by decide) (rfl : kd 36 = 12) (by decide) rfl 0 (by decide) wd2 (fun _ h9 => h9) (by decide) rfl dX12_filter_36 ?_
    refine sj_i (y := 0) (up2_at _ _ _ _) ?_
    refine lv_if_ne (tgt := 48) hx hb dX12_filter_39 (by decide) (fun h => absurd (by decide) h) (fun _ => ?_)
    refine lv_aload_n hx hb dX12_filter_42 rfl (lv_at hl 0 rfl) ?_
    refine lv_bipush (v := 8) hx hb dX12_filter_43 (by decide) ?_
    have hl_30 : (8 : Int32).toInt = 8 := rfl
    have hp_31 : ((up2 im_13 36 0 0) 36 2).toInt = ((i 36 2) : Int32).toInt := congrArg Int32.toInt (((up2_k _ _ (by decide)).trans ((hfr_14 36 2 (by omega)).trans (hfr_4 36 2 (by omega)))))
    refine x_callv (va_runV (As := [.int 8]) (rest := []) ⟨hx, hb, hml, hown, hts⟩ (m_keep l D g ka ad (up2 im_13 36 0 0) r L d 8 hO_29 hR H.size (by first | omega | decide) (by first | omega | decide) (by omega)) (cwV 1 hts gX12_filter_X12_keep rfl rfl rfl (by decide +kernel) ⟨(Nat.le_of_ble_eq_true rfl), (Nat.le_of_ble_eq_true rfl)⟩) (x_preV (q := (RX12, TX12, 86)) hH hK (q_obj (by decide) (rfl : kd 36 = 12) (by decide)) rfl gxb (gxw hE hS (x_F hH hS hA))) rfl rfl hl.1 rfl (lv_room (Nat.le_of_ble_eq_true rfl)) dX12_filter_45 ⟨(Nat.le_of_ble_eq_true rfl), (Nat.le_of_ble_eq_true rfl)⟩) hH hS hA rfl rfl (fun im_34 H locs hw_33 hH hS => ?_)
    have hH : sj_H D A (hwc g ka im_34 r L d) H := hH
    obtain ⟨hO_36, hfr_35, hx2_37, hx2_38, hx2_39, hx2_40⟩ := hw_33
    refine lv_aload_n hx hb dX12_filter_48 rfl (lv_at hl 0 rfl) ?_
    refine lv_iconst (v := 0) hx hb dX12_filter_49 (by decide) ?_
    have hO_41 := okp hO_36 (n := 36) (k := 2) (v := 0) (show (0 : Int) ≤ (0 : Int32).toInt ∧ (0 : Int32).toInt ≤ 480 from ⟨by decide, by decide⟩)
    refine h_puti (ty := .int) (ci := 12) (C := RX12) (F := TX12) (N := 86) hx hb hts in12 tyX12 tyX12_ok nmX12 hown hK hH hS (by decide) (rfl : kd 36 = 12) (by decide) rfl 2 (by decide) wd1 (fun _ h9 => h9) rfl (by decide +kernel) rfl rfl (by decide) rfl dX12_filter_50 (fun H locs hH hS => ?_)
    refine lv_aload_n hx hb dX12_filter_53 rfl (lv_at hl 0 rfl) ?_
    refine h_geti (ci := 12) (C := RX12) (F := TX12) (N := 86) hx hb hts in12 hown hK hH (by decide) (rfl : kd 36 = 12) (by decide) rfl 0 (by decide) wd2 (fun _ h9 => h9) (by decide) rfl dX12_filter_54 ?_
    refine sj_i (y := 0) ((up2_k _ _ (by decide)).trans ((hfr_35 36 0 (by omega)).trans (up2_at _ _ _ _))) ?_
    refine lv_if_le (tgt := 64) hx hb dX12_filter_57 (by decide) (fun _ => ?_) (fun h => absurd (by decide) h)
    refine lv_aload_n hx hb dX12_filter_64 rfl (lv_at hl 0 rfl) ?_
    refine x_calli (va_runV (As := []) (rest := []) ⟨hx, hb, hml, hown, hts⟩ (m_wanted l D g ka ad (up2 im_34 36 2 0) r L d  hO_41 hR H.size ) (cwV 0 hts gX12_filter_X12_wanted rfl rfl rfl (by decide +kernel) ⟨(Nat.le_of_ble_eq_true rfl), (Nat.le_of_ble_eq_true rfl)⟩) (x_preV (q := (RX12, TX12, 86)) hH hK (q_obj (by decide) (rfl : kd 36 = 12) (by decide)) rfl gxb (gxw hE hS (x_F hH hS hA))) rfl rfl hl.1 rfl (lv_room (Nat.le_of_ble_eq_true rfl)) dX12_filter_65 ⟨(Nat.le_of_ble_eq_true rfl), (Nat.le_of_ble_eq_true rfl)⟩) hH hS hA rfl rfl (fun r_42 im_44 H locs hw_43 hH hS => ?_)
    have hH : sj_H D A (hwc g ka im_44 r L d) H := hH
    obtain ⟨hO_46, hfr_45, hr_47⟩ := hw_43
    have hr_47 : (0 : Int) ≤ r_42.toInt ∧ r_42.toInt ≤ 24 := hr_47
    have hp_48 : (im_44 36 2).toInt = (0 : Int32).toInt := congrArg Int32.toInt (((hfr_45 36 2 (by omega)).trans (up2_at _ _ _ _)))
    have hl_49 : (0 : Int32).toInt = 0 := rfl
    have hV_50 : (im_44 36 2).toInt = 0 := (by omega)
    have ha16 : im_44 416 = im_34 416 := (funext fun b9 => ((hfr_45 416 b9 (by omega)).trans (up2_o _ _ (by omega))))
    have ha17 : im_44 417 = im_34 417 := (funext fun b9 => ((hfr_45 417 b9 (by omega)).trans (up2_o _ _ (by omega))))
    have hkxe : (8 : Int32).toInt = (8 : Int) := rfl
    have hkz : ((up2 im_13 36 0 0) 36 2).toInt = (i 36 2).toInt := congrArg Int32.toInt (show (up2 im_13 36 0 0) 36 2 = i 36 2 from ((up2_o _ _ (by omega)).trans ((hfr_14 36 2 (by omega)).trans (hfr_4 36 2 (by omega)))))
    have hnew : tgLM im_44 (8 : Int).toNat = mTx i := tgLM_new (x := (8 : Int)) (by omega) (by omega) (by
        rw [ha17]
        have h9 := hx2_37
        rw [hkxe, hkz] at h9
        exact h9) (by
        intro k hk
        have h9 := hx2_39 k (by omega)
        rw [hkxe] at h9
        rw [ha16, h9]
        exact congrArg Int32.toInt (show (up2 im_13 36 0 0) 379 k = i 379 k from ((up2_o _ _ (by omega)).trans ((hfr_14 379 k (by omega)).trans (hfr_4 379 k (by omega))))))
    have hold : ∀ h : Nat, h ≠ (8 : Int).toNat → tgLM im_44 h = tgLM i h := tgLM_old (x := (8 : Int)) (by omega) (fun k => (hO 417 k).2) (by
        intro k hk
        have h9 := hx2_38 k (by rw [hkxe]; exact hk)
        rw [ha17, h9]
        exact ((up2_o _ _ (by omega)).trans ((hfr_14 417 k (by omega)).trans (hfr_4 417 k (by omega))))) (by
        intro k hk
        have h9 := hx2_40 k (by rw [hkxe]; exact hk)
        rw [ha16, h9]
        exact ((up2_o _ _ (by omega)).trans ((hfr_14 416 k (by omega)).trans (hfr_4 416 k (by omega)))))
    have hV_51 : ftM i im_44 := (Or.inr ⟨hkt, hnew, hold⟩)
    exact sj_zret hx hb hr hlocks rfl hS im_44 ⟨hO_46, (fun a b ha => ((hfr_45 a b (by omega)).trans ((up2_o _ _ (by omega)).trans ((hfr_35 a b (by omega)).trans ((up2_o _ _ (by omega)).trans ((hfr_14 a b (by omega)).trans (hfr_4 a b (by omega)))))))), hV_50, hV_51⟩ hH (sj_Knil hK) (Nat.le_of_ble_eq_true rfl) (Nat.le_of_ble_eq_true rfl) dX12_filter_68
set_option maxHeartbeats 2000000 in
set_option maxRecDepth 100000 in
theorem m_start1 (l : Launch) (D : va_G) (g : Nat → Nat) (ka : Nat → ClassId) (ad : Nat → Nat) (i : Nat → Nat → Int32) (r : Nat → Nat → Nat) (L : Nat → Nat → Int64) (d : Nat → Nat → UInt64) (x : Int32) (hO : OkI i) (hR : RS r) (sz : Nat) (hb76 : (i 36 76).toInt = 0) (hMI : MI i d) (hev : (i 36 81).toInt ≤ 1900000000) : Met l yX12_start wsX12_start ({ frames := 6, cells := 0, slots := 0, locals := 135 }) (va_Pc [.ref (g 36), .int x] (sj_B D (hwc g ka i r L d) (hT ka) sz (gx ad (va_A (hwc g ka i r L d) sz)))) (sj_Qi (S := (Nat → Nat → Int32)) D (fun v u => OkI u ∧ (∀ a b, ¬ ((a = 36 ∧ (b = 0 ∨ b = 65 ∨ b = 66 ∨ b = 75 ∨ b = 76 ∨ b = 77 ∨ b = 78 ∨ b = 79 ∨ b = 80 ∨ b = 81)) ∨ a = 401 ∨ a = 418 ∨ a = 419 ∨ a = 426) → u a b = i a b) ∧ (MI u d) ∧ (((x.toInt < 1 ∨ 3 < x.toInt) ∧ (u 36 76).toInt = 0) ∨ ((1 ≤ x.toInt ∧ x.toInt ≤ 3) ∧ mrest u = murem i 0 ∧ ((0 < murem i 0 ∧ (u 36 76).toInt = 1) ∨ (murem i 0 ≤ 0 ∧ (u 36 76).toInt = 0)))) ∧ (((u 36 81).toInt ≤ (i 36 81).toInt + 2))) (fun u => hwc g ka u r L d) (fun _ => []) (va_A (hwc g ka i r L d) sz)) 0 0 (va_A (hwc g ka i r L d) sz) := by
  refine x_met (Ex := gx ad) (cc := cX12_start) (maxL := 3) (ret := (some .int)) (by decide) rfl (Nat.le_of_ble_eq_true rfl) ?_
  intro p e s m below meth c A ls hx hb hr hml hts hown hlocks hA hS hH hK hE hl
  have hown : s.vm.findClass RX12 = some m.cls := hown
  have in12 : ∀ w ∈ wsX120, w ∈ wsX12_start := (fun _ h => (List.mem_cons_of_mem _ (List.mem_append_right _ h)))
  have wd0 := hts (.fieldLink RX12 507 "StoryDeskModel" "workers" "I") (List.mem_cons_of_mem _ (List.mem_append_left _ (List.mem_append_left _ lm0)))
  have wd1 := hts (.fieldLink RX12 516 "StoryDeskModel" "turn" "I") (List.mem_cons_of_mem _ (List.mem_append_left _ (List.mem_append_left _ lm1)))
  have wd2 := hts (.fieldLink RX12 504 "StoryDeskModel" "upcoming" "I") (List.mem_cons_of_mem _ (List.mem_append_left _ (List.mem_append_left _ lm2)))
  have wd3 := hts (.fieldLink RX12 510 "StoryDeskModel" "worst" "I") (List.mem_cons_of_mem _ (List.mem_append_left _ (List.mem_append_left _ lm3)))
  have wd4 := hts (.fieldLink RX12 460 "StoryDeskModel" "units" "I") (List.mem_cons_of_mem _ (List.mem_append_left _ (List.mem_append_left _ lm4)))
  have wd5 := hts (.fieldLink RX12 165 "StoryDeskModel" "cases" "I") (List.mem_cons_of_mem _ (List.mem_append_left _ (List.mem_append_left _ lm5)))
  have wd6 := hts (.fieldLink RX12 168 "StoryDeskModel" "running" "Z") (List.mem_cons_of_mem _ (List.mem_append_left _ (List.mem_append_left _ lm7)))
  have wd7 := hts (.fieldLink RX12 207 "StoryDeskModel" "caseStatus" "[I") (List.mem_cons_of_mem _ (List.mem_append_left _ (List.mem_append_left _ lm6)))
  have hl : lv_has ls 3 [(0, .ref (g 36)), (1, .int x)] := hl
  have hK : va_K D vwCl (hT ka) s := hK
  have hg_1 := s_rng x
  have hb33 : (0 : Int) ≤ (i 36 33).toInt ∧ (i 36 33).toInt ≤ 24 := hO 36 33
  have hj := (hMI.resolve_right (fun q => by have := q.1; omega)).2
  refine lv_aload_n hx hb dX12_start_0 rfl (lv_at hl 0 rfl) ?_
  refine x_calli (va_runV (As := []) (rest := []) ⟨hx, hb, hml, hown, hts⟩ (m_busy l D g ka ad i r L d  hO hR s.heap.size ) (cwV 0 hts gX12_start_X12_busy rfl rfl rfl (by decide +kernel) ⟨(Nat.le_of_ble_eq_true rfl), (Nat.le_of_ble_eq_true rfl)⟩) (x_preV (q := (RX12, TX12, 86)) hH hK (q_obj (by decide) (rfl : kd 36 = 12) (by decide)) rfl gxb (gxw hE hS (x_F hH hS hA))) rfl rfl hl.1 rfl (lv_room (Nat.le_of_ble_eq_true rfl)) dX12_start_1 ⟨(Nat.le_of_ble_eq_true rfl), (Nat.le_of_ble_eq_true rfl)⟩) hH hS hA rfl rfl (fun r_2 im_4 H locs hw_3 hH hS => ?_)
  have hH : sj_H D A (hwc g ka im_4 r L d) H := hH
  obtain ⟨hO_6, hfr_5, hr_7, he_8⟩ := hw_3
  have hr_7 : (0 : Int) ≤ r_2.toInt ∧ r_2.toInt ≤ 1 := hr_7
  refine lv_if_eq (tgt := 9) hx hb dX12_start_4 (by decide) (fun _ => ?_) (fun h => absurd (p_eq (rfl : r_2.toInt = _) (show (0 : Int32).toInt = 0 from rfl) (by omega)) h)
  refine lv_aload_n hx hb dX12_start_9 rfl (lv_at hl 0 rfl) ?_
  refine lv_iload_n hx hb dX12_start_10 rfl (lv_at hl 1 rfl) ?_
  refine lv_iconst (v := 1) hx hb dX12_start_11 (by decide) ?_
  refine lv_icmp_lt (tgt := 20) hx hb dX12_start_12 (by decide) (fun c_9 => ?_) (fun c_9 => ?_)
  · skip
    have h_10 := s_lt (rfl : x.toInt = _) (show (1 : Int32).toInt = 1 from rfl) c_9
    refine lv_iconst (v := 2) hx hb dX12_start_20 (by decide) ?_
    refine lv_goto (tgt := 25) hx hb dX12_start_21 (by decide) ?_
    have hl_11 : (2 : Int32).toInt = 2 := rfl
    refine x_calli (va_runV (As := [.int 2]) (rest := []) ⟨hx, hb, hml, hown, hts⟩ (m_throwsNow l D g ka ad im_4 r L d 2 hO_6 hR H.size (by first | omega | decide) (by first | omega | decide)) (cwV 1 hts gX12_start_X12_throwsNow rfl rfl rfl (by decide +kernel) ⟨(Nat.le_of_ble_eq_true rfl), (Nat.le_of_ble_eq_true rfl)⟩) (x_preV (q := (RX12, TX12, 86)) hH hK (q_obj (by decide) (rfl : kd 36 = 12) (by decide)) rfl gxb (gxw hE hS (x_F hH hS hA))) rfl rfl hl.1 rfl (lv_room (Nat.le_of_ble_eq_true rfl)) dX12_start_25 ⟨(Nat.le_of_ble_eq_true rfl), (Nat.le_of_ble_eq_true rfl)⟩) hH hS hA rfl rfl (fun r_12 im_14 H locs hw_13 hH hS => ?_)
    have hH : sj_H D A (hwc g ka im_14 r L d) H := hH
    obtain ⟨hO_16, hfr_15, hr_17, he_18⟩ := hw_13
    have hr_17 : (0 : Int) ≤ r_12.toInt ∧ r_12.toInt ≤ 1 := hr_17
    refine lv_if_eq (tgt := 33) hx hb dX12_start_28 (by decide) (fun c_19 => ?_) (fun c_19 => ?_)
    · skip
      have h_20 := s_eq (rfl : r_12.toInt = _) (show (0 : Int32).toInt = 0 from rfl) c_19
      refine lv_aload_n hx hb dX12_start_33 rfl (lv_at hl 0 rfl) ?_
      refine lv_iload_n hx hb dX12_start_34 rfl (lv_at hl 1 rfl) ?_
      have hO_21 := okp hO_16 (n := 36) (k := 77) (v := x) (show (0 : Int) ≤ (x : Int32).toInt ∧ (x : Int32).toInt ≤ 3 from ⟨by omega, by omega⟩)
      refine h_puti (ty := .int) (ci := 12) (C := RX12) (F := TX12) (N := 86) hx hb hts in12 tyX12 tyX12_ok nmX12 hown hK hH hS (by decide) (rfl : kd 36 = 12) (by decide) rfl 77 (by decide) wd0 (fun _ h9 => h9) rfl (by decide +kernel) rfl rfl (by decide) rfl dX12_start_35 (fun H locs hH hS => ?_)
      refine lv_aload_n hx hb dX12_start_38 rfl (lv_at hl 0 rfl) ?_
      refine lv_iconst (v := 0) hx hb dX12_start_39 (by decide) ?_
      have hO_22 := okp hO_21 (n := 36) (k := 78) (v := 0) (show (0 : Int) ≤ (0 : Int32).toInt ∧ (0 : Int32).toInt ≤ 2 from ⟨by decide, by decide⟩)
      refine h_puti (ty := .int) (ci := 12) (C := RX12) (F := TX12) (N := 86) hx hb hts in12 tyX12 tyX12_ok nmX12 hown hK hH hS (by decide) (rfl : kd 36 = 12) (by decide) rfl 78 (by decide) wd1 (fun _ h9 => h9) rfl (by decide +kernel) rfl rfl (by decide) rfl dX12_start_40 (fun H locs hH hS => ?_)
      refine lv_aload_n hx hb dX12_start_43 rfl (lv_at hl 0 rfl) ?_
      refine lv_iconst (v := 0) hx hb dX12_start_44 (by decide) ?_
      have hO_23 := okp hO_22 (n := 36) (k := 79) (v := 0) (show (0 : Int) ≤ (0 : Int32).toInt ∧ (0 : Int32).toInt ≤ 24 from ⟨by decide, by decide⟩)
      refine h_puti (ty := .int) (ci := 12) (C := RX12) (F := TX12) (N := 86) hx hb hts in12 tyX12 tyX12_ok nmX12 hown hK hH hS (by decide) (rfl : kd 36 = 12) (by decide) rfl 79 (by decide) wd2 (fun _ h9 => h9) rfl (by decide +kernel) rfl rfl (by decide) rfl dX12_start_45 (fun H locs hH hS => ?_)
      refine lv_aload_n hx hb dX12_start_48 rfl (lv_at hl 0 rfl) ?_
      refine lv_iconst (v := 0) hx hb dX12_start_49 (by decide) ?_
      have hO_24 := okp hO_23 (n := 36) (k := 80) (v := 0) (show (0 : Int) ≤ (0 : Int32).toInt ∧ (0 : Int32).toInt ≤ 5 from ⟨by decide, by decide⟩)
      refine h_puti (ty := .int) (ci := 12) (C := RX12) (F := TX12) (N := 86) hx hb hts in12 tyX12 tyX12_ok nmX12 hown hK hH hS (by decide) (rfl : kd 36 = 12) (by decide) rfl 80 (by decide) wd3 (fun _ h9 => h9) rfl (by decide +kernel) rfl rfl (by decide) rfl dX12_start_50 (fun H locs hH hS => ?_)
      refine lv_aload_n hx hb dX12_start_53 rfl (lv_at hl 0 rfl) ?_
      refine lv_iconst (v := 0) hx hb dX12_start_54 (by decide) ?_
      have hO_25 := okp hO_24 (n := 36) (k := 75) (v := 0) (show (-2147483648 : Int) ≤ (0 : Int32).toInt ∧ (0 : Int32).toInt ≤ 2147483647 from s_rng 0)
      refine h_puti (ty := .int) (ci := 12) (C := RX12) (F := TX12) (N := 86) hx hb hts in12 tyX12 tyX12_ok nmX12 hown hK hH hS (by decide) (rfl : kd 36 = 12) (by decide) rfl 75 (by decide) wd4 (fun _ h9 => h9) rfl (by decide +kernel) rfl rfl (by decide) rfl dX12_start_55 (fun H locs hH hS => ?_)
      refine lv_iconst (v := 0) hx hb dX12_start_58 (by decide) ?_
      refine lv_istore_n (lv' := [(2, .int 0), (0, .ref (g 36)), (1, .int x)]) hx hb dX12_start_59 rfl hl (by decide) rfl (fun ls hl => ?_)
      -- loop at 60
      have lp_26 : ∀ (fuel_lp_26 : Nat) (f : Int32) (j1 : Nat → Nat → Int32) (H : Heap) (locs : List Loc) (ls : Array Slot), (24 - f.toInt).toNat < fuel_lp_26 → (0 : Int) ≤ f.toInt ∧ f.toInt ≤ 24 → f.toInt ≤ (i 36 33).toInt → OkI j1 → (∀ a b, ¬ (a = 401) → j1 a b = (up2 (up2 (up2 (up2 (up2 im_14 36 77 x) 36 78 0) 36 79 0) 36 80 0) 36 75 0) a b) → lv_has ls 3 [(2, .int f), (0, .ref (g 36)), (1, .int x)] → sj_H D A (hwc g ka j1 r L d) H → va_S A s.heap H locs → W p l e (headSpec wsX12_start ({ frames := 6, cells := 0, slots := 0, locals := 135 })).room s m ([.ref (g 36), .int x] : List Value).toArray below meth c H locs 0 0 (MQ below (sj_Qi (S := (Nat → Nat → Int32)) D (fun v u => OkI u ∧ (∀ a b, ¬ ((a = 36 ∧ (b = 0 ∨ b = 65 ∨ b = 66 ∨ b = 75 ∨ b = 76 ∨ b = 77 ∨ b = 78 ∨ b = 79 ∨ b = 80 ∨ b = 81)) ∨ a = 401 ∨ a = 418 ∨ a = 419 ∨ a = 426) → u a b = i a b) ∧ (MI u d) ∧ (((x.toInt < 1 ∨ 3 < x.toInt) ∧ (u 36 76).toInt = 0) ∨ ((1 ≤ x.toInt ∧ x.toInt ≤ 3) ∧ mrest u = murem i 0 ∧ ((0 < murem i 0 ∧ (u 36 76).toInt = 1) ∨ (murem i 0 ≤ 0 ∧ (u 36 76).toInt = 0)))) ∧ (((u 36 81).toInt ≤ (i 36 81).toInt + 2))) (fun u => hwc g ka u r L d) (fun _ => []) A) ([.ref (g 36), .int x] : List Value).toArray s 0 0 A) (F0 m 60 ls []) := by
        intro fuel_lp_26
        induction fuel_lp_26 with
        | zero => intros; omega
        | succ fuel_lp_26 ih_lp_26 =>
          intro f j1 H locs ls hm hr_f hi_lp_26_0 hO_j1 hfr_j1 hl hH hS
          refine lv_iload_n hx hb dX12_start_60 rfl (lv_at hl 0 rfl) ?_
          refine lv_aload_n hx hb dX12_start_61 rfl (lv_at hl 1 rfl) ?_
          have bx_27 : (0 : Int) ≤ (i 36 33).toInt ∧ (i 36 33).toInt ≤ 24 := hO 36 33
          refine h_geti (ci := 12) (C := RX12) (F := TX12) (N := 86) hx hb hts in12 hown hK hH (by decide) (rfl : kd 36 = 12) (by decide) rfl 33 (by decide) wd5 (fun _ h9 => h9) (by decide) rfl dX12_start_62 ?_
          refine sj_i (y := (i 36 33)) ((hfr_j1 36 33 (by omega)).trans ((up2_k _ _ (by decide)).trans ((up2_k _ _ (by decide)).trans ((up2_k _ _ (by decide)).trans ((up2_k _ _ (by decide)).trans ((up2_k _ _ (by decide)).trans ((hfr_15 36 33 (by omega)).trans (hfr_5 36 33 (by omega))))))))) ?_
          refine lv_icmp_ge (tgt := 81) hx hb dX12_start_65 (by decide) (fun c_28 => ?_) (fun c_28 => ?_)
          · skip
            have h_29 := s_le (rfl : (i 36 33).toInt = _) (rfl : f.toInt = _) c_28
            refine lv_aload_n hx hb dX12_start_81 rfl (lv_at hl 1 rfl) ?_
            refine lv_iconst (v := 1) hx hb dX12_start_82 (by decide) ?_
            have hO_30 := okp hO_j1 (n := 36) (k := 76) (v := 1) (show (0 : Int) ≤ (1 : Int32).toInt ∧ (1 : Int32).toInt ≤ 1 from ⟨by decide, by decide⟩)
            refine h_puti (ty := .boolean) (ci := 12) (C := RX12) (F := TX12) (N := 86) hx hb hts in12 tyX12 tyX12_ok nmX12 hown hK hH hS (by decide) (rfl : kd 36 = 12) (by decide) rfl 76 (by decide) wd6 (fun _ h9 => h9) rfl (by decide +kernel) (by decide +kernel) (by decide +kernel) (by decide) rfl dX12_start_83 (fun H locs hH hS => ?_)
            refine lv_aload_n hx hb dX12_start_86 rfl (lv_at hl 1 rfl) ?_
            refine lv_iconst (v := 0) hx hb dX12_start_87 (by decide) ?_
            refine lv_aload_n hx hb dX12_start_88 rfl (lv_at hl 1 rfl) ?_
            refine x_calli (va_runV (As := []) (rest := [.int 0, .ref (g 36)]) ⟨hx, hb, hml, hown, hts⟩ (m_wanted l D g ka ad (up2 j1 36 76 1) r L d  hO_30 hR H.size ) (cwV 0 hts gX12_start_X12_wanted rfl rfl rfl (by decide +kernel) ⟨(Nat.le_of_ble_eq_true rfl), (Nat.le_of_ble_eq_true rfl)⟩) (x_preV (q := (RX12, TX12, 86)) hH hK (q_obj (by decide) (rfl : kd 36 = 12) (by decide)) rfl gxb (gxw hE hS (x_F hH hS hA))) rfl rfl hl.1 rfl (lv_room (Nat.le_of_ble_eq_true rfl)) dX12_start_89 ⟨(Nat.le_of_ble_eq_true rfl), (Nat.le_of_ble_eq_true rfl)⟩) hH hS hA rfl rfl (fun r_31 im_33 H locs hw_32 hH hS => ?_)
            have hH : sj_H D A (hwc g ka im_33 r L d) H := hH
            obtain ⟨hO_35, hfr_34, hr_36⟩ := hw_32
            have hr_36 : (0 : Int) ≤ r_31.toInt ∧ r_31.toInt ≤ 24 := hr_36
            refine lv_iload_n hx hb dX12_start_92 rfl (lv_at hl 2 rfl) ?_
            refine lv_iconst (v := 0) hx hb dX12_start_93 (by decide) ?_
            have hl_37 : (0 : Int32).toInt = 0 := rfl
            have hl_38 : (0 : Int32).toInt = 0 := rfl
            have hp_39 : (im_33 36 81).toInt = ((i 36 81) : Int32).toInt := congrArg Int32.toInt (((hfr_34 36 81 (by omega)).trans ((up2_k _ _ (by decide)).trans ((hfr_j1 36 81 (by omega)).trans ((up2_k _ _ (by decide)).trans ((up2_k _ _ (by decide)).trans ((up2_k _ _ (by decide)).trans ((up2_k _ _ (by decide)).trans ((up2_k _ _ (by decide)).trans ((hfr_15 36 81 (by omega)).trans (hfr_5 36 81 (by omega))))))))))))
            have hp_40 : (im_33 36 81).toInt = ((i 36 81) : Int32).toInt := congrArg Int32.toInt (((hfr_34 36 81 (by omega)).trans ((up2_k _ _ (by decide)).trans ((hfr_j1 36 81 (by omega)).trans ((up2_k _ _ (by decide)).trans ((up2_k _ _ (by decide)).trans ((up2_k _ _ (by decide)).trans ((up2_k _ _ (by decide)).trans ((up2_k _ _ (by decide)).trans ((hfr_15 36 81 (by omega)).trans (hfr_5 36 81 (by omega))))))))))))
            refine x_callv (va_runV (As := [.int 0, .int r_31, .int x, .int 0]) (rest := []) ⟨hx, hb, hml, hown, hts⟩ (m_tell l D g ka ad im_33 r L d 0 r_31 x 0 hO_35 hR H.size (by omega)) (cwV 4 hts gX12_start_X12_tell rfl rfl rfl (by decide +kernel) ⟨(Nat.le_of_ble_eq_true rfl), (Nat.le_of_ble_eq_true rfl)⟩) (x_preV (q := (RX12, TX12, 86)) hH hK (q_obj (by decide) (rfl : kd 36 = 12) (by decide)) rfl gxb (gxw hE hS (x_F hH hS hA))) rfl rfl hl.1 rfl (lv_room (Nat.le_of_ble_eq_true rfl)) dX12_start_94 ⟨(Nat.le_of_ble_eq_true rfl), (Nat.le_of_ble_eq_true rfl)⟩) hH hS hA rfl rfl (fun im_43 H locs hw_42 hH hS => ?_)
            have hH : sj_H D A (hwc g ka im_43 r L d) H := hH
            obtain ⟨hO_45, hfr_44, he_46⟩ := hw_42
            refine lv_aload_n hx hb dX12_start_97 rfl (lv_at hl 1 rfl) ?_
            refine x_calli (va_runV (As := []) (rest := []) ⟨hx, hb, hml, hown, hts⟩ (m_wanted l D g ka ad im_43 r L d  hO_45 hR H.size ) (cwV 0 hts gX12_start_X12_wanted rfl rfl rfl (by decide +kernel) ⟨(Nat.le_of_ble_eq_true rfl), (Nat.le_of_ble_eq_true rfl)⟩) (x_preV (q := (RX12, TX12, 86)) hH hK (q_obj (by decide) (rfl : kd 36 = 12) (by decide)) rfl gxb (gxw hE hS (x_F hH hS hA))) rfl rfl hl.1 rfl (lv_room (Nat.le_of_ble_eq_true rfl)) dX12_start_98 ⟨(Nat.le_of_ble_eq_true rfl), (Nat.le_of_ble_eq_true rfl)⟩) hH hS hA rfl rfl (fun r_47 im_49 H locs hw_48 hH hS => ?_)
            have hH : sj_H D A (hwc g ka im_49 r L d) H := hH
            obtain ⟨hO_51, hfr_50, hr_52⟩ := hw_48
            have hr_52 : (0 : Int) ≤ r_47.toInt ∧ r_47.toInt ≤ 24 := hr_52
            refine lv_istore_n (lv' := [(2, .int r_47), (0, .ref (g 36)), (1, .int x)]) hx hb dX12_start_101 rfl hl (by decide) rfl (fun ls hl => ?_)
            refine lv_aload_n hx hb dX12_start_102 rfl (lv_at hl 1 rfl) ?_
            have hp_53 : (im_49 36 79).toInt = (0 : Int32).toInt := congrArg Int32.toInt (((hfr_50 36 79 (by omega)).trans ((hfr_44 36 79 (by omega)).trans ((hfr_34 36 79 (by omega)).trans ((up2_k _ _ (by decide)).trans ((hfr_j1 36 79 (by omega)).trans ((up2_k _ _ (by decide)).trans ((up2_k _ _ (by decide)).trans (up2_at _ _ _ _)))))))))
            have hl_54 : (0 : Int32).toInt = 0 := rfl
            have hp_55 : (im_49 36 33).toInt = ((i 36 33) : Int32).toInt := congrArg Int32.toInt (((hfr_50 36 33 (by omega)).trans ((hfr_44 36 33 (by omega)).trans ((hfr_34 36 33 (by omega)).trans ((up2_k _ _ (by decide)).trans ((hfr_j1 36 33 (by omega)).trans ((up2_k _ _ (by decide)).trans ((up2_k _ _ (by decide)).trans ((up2_k _ _ (by decide)).trans ((up2_k _ _ (by decide)).trans ((up2_k _ _ (by decide)).trans ((hfr_15 36 33 (by omega)).trans (hfr_5 36 33 (by omega))))))))))))))
            refine x_callv (va_runV (As := []) (rest := []) ⟨hx, hb, hml, hown, hts⟩ (m_seek l D g ka ad im_49 r L d  hO_51 hR H.size (by omega)) (cwV 0 hts gX12_start_X12_seek rfl rfl rfl (by decide +kernel) ⟨(Nat.le_of_ble_eq_true rfl), (Nat.le_of_ble_eq_true rfl)⟩) (x_preV (q := (RX12, TX12, 86)) hH hK (q_obj (by decide) (rfl : kd 36 = 12) (by decide)) rfl gxb (gxw hE hS (x_F hH hS hA))) rfl rfl hl.1 rfl (lv_room (Nat.le_of_ble_eq_true rfl)) dX12_start_103 ⟨(Nat.le_of_ble_eq_true rfl), (Nat.le_of_ble_eq_true rfl)⟩) hH hS hA rfl rfl (fun im_58 H locs hw_57 hH hS => ?_)
            have hH : sj_H D A (hwc g ka im_58 r L d) H := hH
            obtain ⟨hO_60, hfr_59, hx2_61, hx2_62, hx2_63⟩ := hw_57
            have hq79 : (im_49 36 79).toInt = (0 : Int32).toInt := congrArg Int32.toInt (((hfr_50 36 79 (by omega)).trans ((hfr_44 36 79 (by omega)).trans ((hfr_34 36 79 (by omega)).trans ((up2_k _ _ (by decide)).trans ((hfr_j1 36 79 (by omega)).trans ((up2_k _ _ (by decide)).trans ((up2_k _ _ (by decide)).trans (up2_at _ _ _ _)))))))))
            have hl0 : (0 : Int32).toInt = 0 := rfl
            have hp_64 : (im_58 36 77).toInt = (x : Int32).toInt := congrArg Int32.toInt (((hfr_59 36 77 (by omega)).trans ((hfr_50 36 77 (by omega)).trans ((hfr_44 36 77 (by omega)).trans ((hfr_34 36 77 (by omega)).trans ((up2_k _ _ (by decide)).trans ((hfr_j1 36 77 (by omega)).trans ((up2_k _ _ (by decide)).trans ((up2_k _ _ (by decide)).trans ((up2_k _ _ (by decide)).trans ((up2_k _ _ (by decide)).trans (up2_at _ _ _ _))))))))))))
            have hp_65 : (im_58 36 76).toInt = (1 : Int32).toInt := congrArg Int32.toInt (((hfr_59 36 76 (by omega)).trans ((hfr_50 36 76 (by omega)).trans ((hfr_44 36 76 (by omega)).trans ((hfr_34 36 76 (by omega)).trans (up2_at _ _ _ _))))))
            have hl_66 : (1 : Int32).toInt = 1 := rfl
            have hl1 : (1 : Int32).toInt = 1 := rfl
            obtain ⟨hMUs, hres⟩ := mst_run (i := i) (b := im_49) (s := im_58) (d := d) hO_60 hj (mxG_of (i := im_49) (u := im_58) ⟨(hfr_59 36 17 (by omega)), fun a h1 h2 => funext fun b9 => (hfr_59 a b9 (by omega))⟩ (hfr_59 36 33 (by omega)) (hfr_59 36 67 (by omega)) (funext fun b9 => (hfr_59 400 b9 (by omega))) (funext fun b9 => (hfr_59 420 b9 (by omega))) (funext fun b9 => (hfr_59 416 b9 (by omega))) (funext fun b9 => (hfr_59 417 b9 (by omega)))) (mxG_of (i := i) (u := im_49) ⟨((hfr_50 36 17 (by omega)).trans ((hfr_44 36 17 (by omega)).trans ((hfr_34 36 17 (by omega)).trans ((up2_o _ _ (by omega)).trans ((hfr_j1 36 17 (by omega)).trans ((up2_o _ _ (by omega)).trans ((up2_o _ _ (by omega)).trans ((up2_o _ _ (by omega)).trans ((up2_o _ _ (by omega)).trans ((up2_o _ _ (by omega)).trans ((hfr_15 36 17 (by omega)).trans (hfr_5 36 17 (by omega))))))))))))), fun a h1 h2 => funext fun b9 => ((hfr_50 a b9 (by omega)).trans ((hfr_44 a b9 (by omega)).trans ((hfr_34 a b9 (by omega)).trans ((up2_o _ _ (by omega)).trans ((hfr_j1 a b9 (by omega)).trans ((up2_o _ _ (by omega)).trans ((up2_o _ _ (by omega)).trans ((up2_o _ _ (by omega)).trans ((up2_o _ _ (by omega)).trans ((up2_o _ _ (by omega)).trans ((hfr_15 a b9 (by omega)).trans (hfr_5 a b9 (by omega)))))))))))))⟩ ((hfr_50 36 33 (by omega)).trans ((hfr_44 36 33 (by omega)).trans ((hfr_34 36 33 (by omega)).trans ((up2_o _ _ (by omega)).trans ((hfr_j1 36 33 (by omega)).trans ((up2_o _ _ (by omega)).trans ((up2_o _ _ (by omega)).trans ((up2_o _ _ (by omega)).trans ((up2_o _ _ (by omega)).trans ((up2_o _ _ (by omega)).trans ((hfr_15 36 33 (by omega)).trans (hfr_5 36 33 (by omega))))))))))))) ((hfr_50 36 67 (by omega)).trans ((hfr_44 36 67 (by omega)).trans ((hfr_34 36 67 (by omega)).trans ((up2_o _ _ (by omega)).trans ((hfr_j1 36 67 (by omega)).trans ((up2_o _ _ (by omega)).trans ((up2_o _ _ (by omega)).trans ((up2_o _ _ (by omega)).trans ((up2_o _ _ (by omega)).trans ((up2_o _ _ (by omega)).trans ((hfr_15 36 67 (by omega)).trans (hfr_5 36 67 (by omega))))))))))))) (funext fun b9 => ((hfr_50 400 b9 (by omega)).trans ((hfr_44 400 b9 (by omega)).trans ((hfr_34 400 b9 (by omega)).trans ((up2_o _ _ (by omega)).trans ((hfr_j1 400 b9 (by omega)).trans ((up2_o _ _ (by omega)).trans ((up2_o _ _ (by omega)).trans ((up2_o _ _ (by omega)).trans ((up2_o _ _ (by omega)).trans ((up2_o _ _ (by omega)).trans ((hfr_15 400 b9 (by omega)).trans (hfr_5 400 b9 (by omega)))))))))))))) (funext fun b9 => ((hfr_50 420 b9 (by omega)).trans ((hfr_44 420 b9 (by omega)).trans ((hfr_34 420 b9 (by omega)).trans ((up2_o _ _ (by omega)).trans ((hfr_j1 420 b9 (by omega)).trans ((up2_o _ _ (by omega)).trans ((up2_o _ _ (by omega)).trans ((up2_o _ _ (by omega)).trans ((up2_o _ _ (by omega)).trans ((up2_o _ _ (by omega)).trans ((hfr_15 420 b9 (by omega)).trans (hfr_5 420 b9 (by omega)))))))))))))) (funext fun b9 => ((hfr_50 416 b9 (by omega)).trans ((hfr_44 416 b9 (by omega)).trans ((hfr_34 416 b9 (by omega)).trans ((up2_o _ _ (by omega)).trans ((hfr_j1 416 b9 (by omega)).trans ((up2_o _ _ (by omega)).trans ((up2_o _ _ (by omega)).trans ((up2_o _ _ (by omega)).trans ((up2_o _ _ (by omega)).trans ((up2_o _ _ (by omega)).trans ((hfr_15 416 b9 (by omega)).trans (hfr_5 416 b9 (by omega)))))))))))))) (funext fun b9 => ((hfr_50 417 b9 (by omega)).trans ((hfr_44 417 b9 (by omega)).trans ((hfr_34 417 b9 (by omega)).trans ((up2_o _ _ (by omega)).trans ((hfr_j1 417 b9 (by omega)).trans ((up2_o _ _ (by omega)).trans ((up2_o _ _ (by omega)).trans ((up2_o _ _ (by omega)).trans ((up2_o _ _ (by omega)).trans ((up2_o _ _ (by omega)).trans ((hfr_15 417 b9 (by omega)).trans (hfr_5 417 b9 (by omega))))))))))))))) (by omega) (by omega) (funext fun b9 => ((hfr_59 427 b9 (by omega)).trans ((hfr_50 427 b9 (by omega)).trans ((hfr_44 427 b9 (by omega)).trans ((hfr_34 427 b9 (by omega)).trans ((up2_o _ _ (by omega)).trans ((hfr_j1 427 b9 (by omega)).trans ((up2_o _ _ (by omega)).trans ((up2_o _ _ (by omega)).trans ((up2_o _ _ (by omega)).trans ((up2_o _ _ (by omega)).trans ((up2_o _ _ (by omega)).trans ((hfr_15 427 b9 (by omega)).trans (hfr_5 427 b9 (by omega))))))))))))))) hx2_61 hx2_62 hx2_63
            refine lv_aload_n hx hb dX12_start_106 rfl (lv_at hl 1 rfl) ?_
            have hp_67 : (im_58 36 81).toInt = ((im_43 36 81) : Int32).toInt := congrArg Int32.toInt (((hfr_59 36 81 (by omega)).trans (hfr_50 36 81 (by omega))))
            refine x_callv (va_runV (As := []) (rest := []) ⟨hx, hb, hml, hown, hts⟩ (m_settle2 l D g ka ad im_58 r L d  hO_60 hR H.size (by first | omega | decide)) (cwV 0 hts gX12_start_X12_settle rfl rfl rfl (by decide +kernel) ⟨(Nat.le_of_ble_eq_true rfl), (Nat.le_of_ble_eq_true rfl)⟩) (x_preV (q := (RX12, TX12, 86)) hH hK (q_obj (by decide) (rfl : kd 36 = 12) (by decide)) rfl gxb (gxw hE hS (x_F hH hS hA))) rfl rfl hl.1 rfl (lv_room (Nat.le_of_ble_eq_true rfl)) dX12_start_107 ⟨(Nat.le_of_ble_eq_true rfl), (Nat.le_of_ble_eq_true rfl)⟩) hH hS hA rfl rfl (fun im_70 H locs hw_69 hH hS => ?_)
            have hH : sj_H D A (hwc g ka im_70 r L d) H := hH
            obtain ⟨hO_72, hfr_71, hx2_73, hx2_74⟩ := hw_69
            have hp_75 : (im_70 36 76).toInt = ((im_70 36 76) : Int32).toInt := rfl
            have hp_76 : (im_70 36 77).toInt = (x : Int32).toInt := congrArg Int32.toInt (((hfr_71 36 77 (by omega)).trans ((hfr_59 36 77 (by omega)).trans ((hfr_50 36 77 (by omega)).trans ((hfr_44 36 77 (by omega)).trans ((hfr_34 36 77 (by omega)).trans ((up2_k _ _ (by decide)).trans ((hfr_j1 36 77 (by omega)).trans ((up2_k _ _ (by decide)).trans ((up2_k _ _ (by decide)).trans ((up2_k _ _ (by decide)).trans ((up2_k _ _ (by decide)).trans (up2_at _ _ _ _)))))))))))))
            have hp_77 : (im_70 36 78).toInt = (0 : Int32).toInt := congrArg Int32.toInt (((hfr_71 36 78 (by omega)).trans ((hfr_59 36 78 (by omega)).trans ((hfr_50 36 78 (by omega)).trans ((hfr_44 36 78 (by omega)).trans ((hfr_34 36 78 (by omega)).trans ((up2_k _ _ (by decide)).trans ((hfr_j1 36 78 (by omega)).trans ((up2_k _ _ (by decide)).trans ((up2_k _ _ (by decide)).trans ((up2_k _ _ (by decide)).trans (up2_at _ _ _ _))))))))))))
            have hl_78 : (0 : Int32).toInt = 0 := rfl
            obtain ⟨hMI7, hre7, hk7, hp7⟩ := MI_set (i := im_58) (d := d) hO_60 rfl (mxE_of (i := im_58) (u := im_70) ⟨(hfr_71 36 17 (by omega)), fun a h1 h2 => funext fun b9 => (hfr_71 a b9 (by omega))⟩ (hfr_71 36 33 (by omega)) (hfr_71 36 67 (by omega)) (hfr_71 36 77 (by omega)) (funext fun b9 => (hfr_71 400 b9 (by omega))) (funext fun b9 => (hfr_71 420 b9 (by omega))) (funext fun b9 => (hfr_71 416 b9 (by omega))) (funext fun b9 => (hfr_71 417 b9 (by omega)))) (hfr_71 36 79 (by omega)) (funext fun b9 => (hfr_71 427 b9 (by omega))) (funext fun b9 => (hfr_71 428 b9 (by omega))) (funext fun b9 => (hfr_71 429 b9 (by omega))) hMUs (by omega) (by omega) hx2_73
            refine lv_iload_n hx hb dX12_start_110 rfl (lv_at hl 0 rfl) ?_
            have hV_79 : MI im_70 d := hMI7
            have hp_80 : (im_70 36 76).toInt = ((im_70 36 76) : Int32).toInt := rfl
            have hV_81 : ((x.toInt < 1 ∨ 3 < x.toInt) ∧ (im_70 36 76).toInt = 0) ∨ ((1 ≤ x.toInt ∧ x.toInt ≤ 3) ∧ mrest im_70 = murem i 0 ∧ ((0 < murem i 0 ∧ (im_70 36 76).toInt = 1) ∨ (murem i 0 ≤ 0 ∧ (im_70 36 76).toInt = 0))) := (Or.inr ⟨⟨by omega, by omega⟩, by omega, by rcases hk7 with ⟨h1, h2⟩ | ⟨h1, h2⟩; exact Or.inl ⟨by omega, h2⟩; exact Or.inr ⟨by omega, h2⟩⟩)
            have hp_82 : (im_70 36 81).toInt = ((im_70 36 81) : Int32).toInt := rfl
            have hV_83 : ((im_70 36 81).toInt ≤ (i 36 81).toInt + 2) := (by omega)
            exact sj_zret hx hb hr hlocks rfl hS im_70 ⟨hO_72, (fun a b ha => ((hfr_71 a b (by omega)).trans ((hfr_59 a b (by omega)).trans ((hfr_50 a b (by omega)).trans ((hfr_44 a b (by omega)).trans ((hfr_34 a b (by omega)).trans ((up2_o _ _ (by omega)).trans ((hfr_j1 a b (by omega)).trans ((up2_o _ _ (by omega)).trans ((up2_o _ _ (by omega)).trans ((up2_o _ _ (by omega)).trans ((up2_o _ _ (by omega)).trans ((up2_o _ _ (by omega)).trans ((hfr_15 a b (by omega)).trans (hfr_5 a b (by omega)))))))))))))))), hV_79, hV_81, hV_83⟩ hH (sj_Knil hK) (Nat.le_of_ble_eq_true rfl) (Nat.le_of_ble_eq_true rfl) dX12_start_111
          · skip
            have h_84 := s_nle (rfl : (i 36 33).toInt = _) (rfl : f.toInt = _) c_28
            refine lv_aload_n hx hb dX12_start_68 rfl (lv_at hl 1 rfl) ?_
            refine h_getr (ci := 12) (C := RX12) (F := TX12) (N := 86) hx hb hts in12 hown hK hH (by decide) (rfl : kd 36 = 12) (by decide) rfl 38 (by decide) wd7 (fun _ h9 => h9) (by decide) rfl (t := 401) (hR 36 38 rfl) (by decide) dX12_start_69 ?_
            refine lv_iload_n hx hb dX12_start_72 rfl (lv_at hl 0 rfl) ?_
            refine lv_iconst (v := (-1)) hx hb dX12_start_73 (by decide) ?_
            have hO_85 := okp hO_j1 (n := 401) (k := (f.toInt).toNat) (v := (-1)) (show (-1 : Int) ≤ ((-1) : Int32).toInt ∧ ((-1) : Int32).toInt ≤ 5 from ⟨by decide, by decide⟩)
            refine h_iast hx hb hK hH hS (by decide) (rfl : kd 401 = 13) (s_vin (N := 24) (rfl : f.toInt = _) (rfl : ln 401 = 24) (by omega) (by omega)) dX12_start_74 (fun H locs hH hS => ?_)
            rw [s_cl (show f.toInt = f.toInt by omega)] at hH
            obtain ⟨z_86, ez_86, hz_86⟩ := s_add (rfl : f.toInt = _) (show (1 : Int32).toInt = 1 from rfl) (by omega) (by omega)
            refine lv_iinc (v := z_86) (lv' := [(2, .int z_86), (0, .ref (g 36)), (1, .int x)]) hx hb dX12_start_75 hl (k := 0) rfl ez_86 (by decide) rfl (fun ls hl => ?_)
            refine lv_goto (tgt := 60) hx hb dX12_start_78 (by decide) ?_
            exact ih_lp_26 z_86 _ _ _ ls (by omega) (by omega) (by omega) hO_85 (fun a b ha => ((up2_o _ _ (by omega)).trans (hfr_j1 a b (by omega)))) (lv_sub hl [0, 1, 2] rfl) hH hS
      have hl_87 : (0 : Int32).toInt = 0 := rfl
      exact lp_26 _ 0 _ _ _ ls (Nat.lt_succ_self _) (by omega) (by omega) hO_25 (fun a b ha => rfl) (lv_sub hl [0, 1, 2] rfl) hH hS
    · skip
      have h_88 := s_ne (rfl : r_12.toInt = _) (show (0 : Int32).toInt = 0 from rfl) c_19
      refine lv_iconst (v := 0) hx hb dX12_start_31 (by decide) ?_
      have hV_89 : MI im_14 d := (MI_off (i := i) hMI hb76 ((hfr_15 36 76 (by omega)).trans (hfr_5 36 76 (by omega))) (funext fun b9 => ((hfr_15 427 b9 (by omega)).trans (hfr_5 427 b9 (by omega)))))
      have hp_90 : (im_14 36 76).toInt = ((i 36 76) : Int32).toInt := congrArg Int32.toInt (((hfr_15 36 76 (by omega)).trans (hfr_5 36 76 (by omega))))
      have hV_91 : ((x.toInt < 1 ∨ 3 < x.toInt) ∧ (im_14 36 76).toInt = 0) ∨ ((1 ≤ x.toInt ∧ x.toInt ≤ 3) ∧ mrest im_14 = murem i 0 ∧ ((0 < murem i 0 ∧ (im_14 36 76).toInt = 1) ∨ (murem i 0 ≤ 0 ∧ (im_14 36 76).toInt = 0))) := (Or.inl ⟨by omega, by omega⟩)
      have hp_92 : (im_14 36 81).toInt = ((i 36 81) : Int32).toInt := congrArg Int32.toInt (((hfr_15 36 81 (by omega)).trans (hfr_5 36 81 (by omega))))
      have hV_93 : ((im_14 36 81).toInt ≤ (i 36 81).toInt + 2) := (by omega)
      exact sj_zret hx hb hr hlocks rfl hS im_14 ⟨hO_16, (fun a b ha => ((hfr_15 a b (by omega)).trans (hfr_5 a b (by omega)))), hV_89, hV_91, hV_93⟩ hH (sj_Knil hK) (Nat.le_of_ble_eq_true rfl) (Nat.le_of_ble_eq_true rfl) dX12_start_32
  · skip
    have h_94 := s_nlt (rfl : x.toInt = _) (show (1 : Int32).toInt = 1 from rfl) c_9
    refine lv_iload_n hx hb dX12_start_15 rfl (lv_at hl 1 rfl) ?_
    refine lv_iconst (v := 3) hx hb dX12_start_16 (by decide) ?_
    refine lv_icmp_le (tgt := 24) hx hb dX12_start_17 (by decide) (fun c_95 => ?_) (fun c_95 => ?_)
    · skip
      have h_96 := s_le (rfl : x.toInt = _) (show (3 : Int32).toInt = 3 from rfl) c_95
      refine lv_iconst (v := 0) hx hb dX12_start_24 (by decide) ?_
      have hl_97 : (0 : Int32).toInt = 0 := rfl
      refine x_calli (va_runV (As := [.int 0]) (rest := []) ⟨hx, hb, hml, hown, hts⟩ (m_throwsNow l D g ka ad im_4 r L d 0 hO_6 hR H.size (by first | omega | decide) (by first | omega | decide)) (cwV 1 hts gX12_start_X12_throwsNow rfl rfl rfl (by decide +kernel) ⟨(Nat.le_of_ble_eq_true rfl), (Nat.le_of_ble_eq_true rfl)⟩) (x_preV (q := (RX12, TX12, 86)) hH hK (q_obj (by decide) (rfl : kd 36 = 12) (by decide)) rfl gxb (gxw hE hS (x_F hH hS hA))) rfl rfl hl.1 rfl (lv_room (Nat.le_of_ble_eq_true rfl)) dX12_start_25 ⟨(Nat.le_of_ble_eq_true rfl), (Nat.le_of_ble_eq_true rfl)⟩) hH hS hA rfl rfl (fun r_98 im_100 H locs hw_99 hH hS => ?_)
      have hH : sj_H D A (hwc g ka im_100 r L d) H := hH
      obtain ⟨hO_102, hfr_101, hr_103, he_104⟩ := hw_99
      have hr_103 : (0 : Int) ≤ r_98.toInt ∧ r_98.toInt ≤ 1 := hr_103
      refine lv_if_eq (tgt := 33) hx hb dX12_start_28 (by decide) (fun c_105 => ?_) (fun c_105 => ?_)
      · skip
        have h_106 := s_eq (rfl : r_98.toInt = _) (show (0 : Int32).toInt = 0 from rfl) c_105
        refine lv_aload_n hx hb dX12_start_33 rfl (lv_at hl 0 rfl) ?_
        refine lv_iload_n hx hb dX12_start_34 rfl (lv_at hl 1 rfl) ?_
        have hO_107 := okp hO_102 (n := 36) (k := 77) (v := x) (show (0 : Int) ≤ (x : Int32).toInt ∧ (x : Int32).toInt ≤ 3 from ⟨by omega, by omega⟩)
        refine h_puti (ty := .int) (ci := 12) (C := RX12) (F := TX12) (N := 86) hx hb hts in12 tyX12 tyX12_ok nmX12 hown hK hH hS (by decide) (rfl : kd 36 = 12) (by decide) rfl 77 (by decide) wd0 (fun _ h9 => h9) rfl (by decide +kernel) rfl rfl (by decide) rfl dX12_start_35 (fun H locs hH hS => ?_)
        refine lv_aload_n hx hb dX12_start_38 rfl (lv_at hl 0 rfl) ?_
        refine lv_iconst (v := 0) hx hb dX12_start_39 (by decide) ?_
        have hO_108 := okp hO_107 (n := 36) (k := 78) (v := 0) (show (0 : Int) ≤ (0 : Int32).toInt ∧ (0 : Int32).toInt ≤ 2 from ⟨by decide, by decide⟩)
        refine h_puti (ty := .int) (ci := 12) (C := RX12) (F := TX12) (N := 86) hx hb hts in12 tyX12 tyX12_ok nmX12 hown hK hH hS (by decide) (rfl : kd 36 = 12) (by decide) rfl 78 (by decide) wd1 (fun _ h9 => h9) rfl (by decide +kernel) rfl rfl (by decide) rfl dX12_start_40 (fun H locs hH hS => ?_)
        refine lv_aload_n hx hb dX12_start_43 rfl (lv_at hl 0 rfl) ?_
        refine lv_iconst (v := 0) hx hb dX12_start_44 (by decide) ?_
        have hO_109 := okp hO_108 (n := 36) (k := 79) (v := 0) (show (0 : Int) ≤ (0 : Int32).toInt ∧ (0 : Int32).toInt ≤ 24 from ⟨by decide, by decide⟩)
        refine h_puti (ty := .int) (ci := 12) (C := RX12) (F := TX12) (N := 86) hx hb hts in12 tyX12 tyX12_ok nmX12 hown hK hH hS (by decide) (rfl : kd 36 = 12) (by decide) rfl 79 (by decide) wd2 (fun _ h9 => h9) rfl (by decide +kernel) rfl rfl (by decide) rfl dX12_start_45 (fun H locs hH hS => ?_)
        refine lv_aload_n hx hb dX12_start_48 rfl (lv_at hl 0 rfl) ?_
        refine lv_iconst (v := 0) hx hb dX12_start_49 (by decide) ?_
        have hO_110 := okp hO_109 (n := 36) (k := 80) (v := 0) (show (0 : Int) ≤ (0 : Int32).toInt ∧ (0 : Int32).toInt ≤ 5 from ⟨by decide, by decide⟩)
        refine h_puti (ty := .int) (ci := 12) (C := RX12) (F := TX12) (N := 86) hx hb hts in12 tyX12 tyX12_ok nmX12 hown hK hH hS (by decide) (rfl : kd 36 = 12) (by decide) rfl 80 (by decide) wd3 (fun _ h9 => h9) rfl (by decide +kernel) rfl rfl (by decide) rfl dX12_start_50 (fun H locs hH hS => ?_)
        refine lv_aload_n hx hb dX12_start_53 rfl (lv_at hl 0 rfl) ?_
        refine lv_iconst (v := 0) hx hb dX12_start_54 (by decide) ?_
        have hO_111 := okp hO_110 (n := 36) (k := 75) (v := 0) (show (-2147483648 : Int) ≤ (0 : Int32).toInt ∧ (0 : Int32).toInt ≤ 2147483647 from s_rng 0)
        refine h_puti (ty := .int) (ci := 12) (C := RX12) (F := TX12) (N := 86) hx hb hts in12 tyX12 tyX12_ok nmX12 hown hK hH hS (by decide) (rfl : kd 36 = 12) (by decide) rfl 75 (by decide) wd4 (fun _ h9 => h9) rfl (by decide +kernel) rfl rfl (by decide) rfl dX12_start_55 (fun H locs hH hS => ?_)
        refine lv_iconst (v := 0) hx hb dX12_start_58 (by decide) ?_
        refine lv_istore_n (lv' := [(2, .int 0), (0, .ref (g 36)), (1, .int x)]) hx hb dX12_start_59 rfl hl (by decide) rfl (fun ls hl => ?_)
        -- loop at 60
        have lp_112 : ∀ (fuel_lp_112 : Nat) (f : Int32) (j1 : Nat → Nat → Int32) (H : Heap) (locs : List Loc) (ls : Array Slot), (24 - f.toInt).toNat < fuel_lp_112 → (0 : Int) ≤ f.toInt ∧ f.toInt ≤ 24 → f.toInt ≤ (i 36 33).toInt → OkI j1 → (∀ a b, ¬ (a = 401) → j1 a b = (up2 (up2 (up2 (up2 (up2 im_100 36 77 x) 36 78 0) 36 79 0) 36 80 0) 36 75 0) a b) → lv_has ls 3 [(2, .int f), (0, .ref (g 36)), (1, .int x)] → sj_H D A (hwc g ka j1 r L d) H → va_S A s.heap H locs → W p l e (headSpec wsX12_start ({ frames := 6, cells := 0, slots := 0, locals := 135 })).room s m ([.ref (g 36), .int x] : List Value).toArray below meth c H locs 0 0 (MQ below (sj_Qi (S := (Nat → Nat → Int32)) D (fun v u => OkI u ∧ (∀ a b, ¬ ((a = 36 ∧ (b = 0 ∨ b = 65 ∨ b = 66 ∨ b = 75 ∨ b = 76 ∨ b = 77 ∨ b = 78 ∨ b = 79 ∨ b = 80 ∨ b = 81)) ∨ a = 401 ∨ a = 418 ∨ a = 419 ∨ a = 426) → u a b = i a b) ∧ (MI u d) ∧ (((x.toInt < 1 ∨ 3 < x.toInt) ∧ (u 36 76).toInt = 0) ∨ ((1 ≤ x.toInt ∧ x.toInt ≤ 3) ∧ mrest u = murem i 0 ∧ ((0 < murem i 0 ∧ (u 36 76).toInt = 1) ∨ (murem i 0 ≤ 0 ∧ (u 36 76).toInt = 0)))) ∧ (((u 36 81).toInt ≤ (i 36 81).toInt + 2))) (fun u => hwc g ka u r L d) (fun _ => []) A) ([.ref (g 36), .int x] : List Value).toArray s 0 0 A) (F0 m 60 ls []) := by
          intro fuel_lp_112
          induction fuel_lp_112 with
          | zero => intros; omega
          | succ fuel_lp_112 ih_lp_112 =>
            intro f j1 H locs ls hm hr_f hi_lp_112_0 hO_j1 hfr_j1 hl hH hS
            refine lv_iload_n hx hb dX12_start_60 rfl (lv_at hl 0 rfl) ?_
            refine lv_aload_n hx hb dX12_start_61 rfl (lv_at hl 1 rfl) ?_
            have bx_113 : (0 : Int) ≤ (i 36 33).toInt ∧ (i 36 33).toInt ≤ 24 := hO 36 33
            refine h_geti (ci := 12) (C := RX12) (F := TX12) (N := 86) hx hb hts in12 hown hK hH (by decide) (rfl : kd 36 = 12) (by decide) rfl 33 (by decide) wd5 (fun _ h9 => h9) (by decide) rfl dX12_start_62 ?_
            refine sj_i (y := (i 36 33)) ((hfr_j1 36 33 (by omega)).trans ((up2_k _ _ (by decide)).trans ((up2_k _ _ (by decide)).trans ((up2_k _ _ (by decide)).trans ((up2_k _ _ (by decide)).trans ((up2_k _ _ (by decide)).trans ((hfr_101 36 33 (by omega)).trans (hfr_5 36 33 (by omega))))))))) ?_
            refine lv_icmp_ge (tgt := 81) hx hb dX12_start_65 (by decide) (fun c_114 => ?_) (fun c_114 => ?_)
            · skip
              have h_115 := s_le (rfl : (i 36 33).toInt = _) (rfl : f.toInt = _) c_114
              refine lv_aload_n hx hb dX12_start_81 rfl (lv_at hl 1 rfl) ?_
              refine lv_iconst (v := 1) hx hb dX12_start_82 (by decide) ?_
              have hO_116 := okp hO_j1 (n := 36) (k := 76) (v := 1) (show (0 : Int) ≤ (1 : Int32).toInt ∧ (1 : Int32).toInt ≤ 1 from ⟨by decide, by decide⟩)
              refine h_puti (ty := .boolean) (ci := 12) (C := RX12) (F := TX12) (N := 86) hx hb hts in12 tyX12 tyX12_ok nmX12 hown hK hH hS (by decide) (rfl : kd 36 = 12) (by decide) rfl 76 (by decide) wd6 (fun _ h9 => h9) rfl (by decide +kernel) (by decide +kernel) (by decide +kernel) (by decide) rfl dX12_start_83 (fun H locs hH hS => ?_)
              refine lv_aload_n hx hb dX12_start_86 rfl (lv_at hl 1 rfl) ?_
              refine lv_iconst (v := 0) hx hb dX12_start_87 (by decide) ?_
              refine lv_aload_n hx hb dX12_start_88 rfl (lv_at hl 1 rfl) ?_
              refine x_calli (va_runV (As := []) (rest := [.int 0, .ref (g 36)]) ⟨hx, hb, hml, hown, hts⟩ (m_wanted l D g ka ad (up2 j1 36 76 1) r L d  hO_116 hR H.size ) (cwV 0 hts gX12_start_X12_wanted rfl rfl rfl (by decide +kernel) ⟨(Nat.le_of_ble_eq_true rfl), (Nat.le_of_ble_eq_true rfl)⟩) (x_preV (q := (RX12, TX12, 86)) hH hK (q_obj (by decide) (rfl : kd 36 = 12) (by decide)) rfl gxb (gxw hE hS (x_F hH hS hA))) rfl rfl hl.1 rfl (lv_room (Nat.le_of_ble_eq_true rfl)) dX12_start_89 ⟨(Nat.le_of_ble_eq_true rfl), (Nat.le_of_ble_eq_true rfl)⟩) hH hS hA rfl rfl (fun r_117 im_119 H locs hw_118 hH hS => ?_)
              have hH : sj_H D A (hwc g ka im_119 r L d) H := hH
              obtain ⟨hO_121, hfr_120, hr_122⟩ := hw_118
              have hr_122 : (0 : Int) ≤ r_117.toInt ∧ r_117.toInt ≤ 24 := hr_122
              refine lv_iload_n hx hb dX12_start_92 rfl (lv_at hl 2 rfl) ?_
              refine lv_iconst (v := 0) hx hb dX12_start_93 (by decide) ?_
              have hl_123 : (0 : Int32).toInt = 0 := rfl
              have hl_124 : (0 : Int32).toInt = 0 := rfl
              have hp_125 : (im_119 36 81).toInt = ((i 36 81) : Int32).toInt := congrArg Int32.toInt (((hfr_120 36 81 (by omega)).trans ((up2_k _ _ (by decide)).trans ((hfr_j1 36 81 (by omega)).trans ((up2_k _ _ (by decide)).trans ((up2_k _ _ (by decide)).trans ((up2_k _ _ (by decide)).trans ((up2_k _ _ (by decide)).trans ((up2_k _ _ (by decide)).trans ((hfr_101 36 81 (by omega)).trans (hfr_5 36 81 (by omega))))))))))))
              have hp_126 : (im_119 36 81).toInt = ((i 36 81) : Int32).toInt := congrArg Int32.toInt (((hfr_120 36 81 (by omega)).trans ((up2_k _ _ (by decide)).trans ((hfr_j1 36 81 (by omega)).trans ((up2_k _ _ (by decide)).trans ((up2_k _ _ (by decide)).trans ((up2_k _ _ (by decide)).trans ((up2_k _ _ (by decide)).trans ((up2_k _ _ (by decide)).trans ((hfr_101 36 81 (by omega)).trans (hfr_5 36 81 (by omega))))))))))))
              refine x_callv (va_runV (As := [.int 0, .int r_117, .int x, .int 0]) (rest := []) ⟨hx, hb, hml, hown, hts⟩ (m_tell l D g ka ad im_119 r L d 0 r_117 x 0 hO_121 hR H.size (by omega)) (cwV 4 hts gX12_start_X12_tell rfl rfl rfl (by decide +kernel) ⟨(Nat.le_of_ble_eq_true rfl), (Nat.le_of_ble_eq_true rfl)⟩) (x_preV (q := (RX12, TX12, 86)) hH hK (q_obj (by decide) (rfl : kd 36 = 12) (by decide)) rfl gxb (gxw hE hS (x_F hH hS hA))) rfl rfl hl.1 rfl (lv_room (Nat.le_of_ble_eq_true rfl)) dX12_start_94 ⟨(Nat.le_of_ble_eq_true rfl), (Nat.le_of_ble_eq_true rfl)⟩) hH hS hA rfl rfl (fun im_129 H locs hw_128 hH hS => ?_)
              have hH : sj_H D A (hwc g ka im_129 r L d) H := hH
              obtain ⟨hO_131, hfr_130, he_132⟩ := hw_128
              refine lv_aload_n hx hb dX12_start_97 rfl (lv_at hl 1 rfl) ?_
              refine x_calli (va_runV (As := []) (rest := []) ⟨hx, hb, hml, hown, hts⟩ (m_wanted l D g ka ad im_129 r L d  hO_131 hR H.size ) (cwV 0 hts gX12_start_X12_wanted rfl rfl rfl (by decide +kernel) ⟨(Nat.le_of_ble_eq_true rfl), (Nat.le_of_ble_eq_true rfl)⟩) (x_preV (q := (RX12, TX12, 86)) hH hK (q_obj (by decide) (rfl : kd 36 = 12) (by decide)) rfl gxb (gxw hE hS (x_F hH hS hA))) rfl rfl hl.1 rfl (lv_room (Nat.le_of_ble_eq_true rfl)) dX12_start_98 ⟨(Nat.le_of_ble_eq_true rfl), (Nat.le_of_ble_eq_true rfl)⟩) hH hS hA rfl rfl (fun r_133 im_135 H locs hw_134 hH hS => ?_)
              have hH : sj_H D A (hwc g ka im_135 r L d) H := hH
              obtain ⟨hO_137, hfr_136, hr_138⟩ := hw_134
              have hr_138 : (0 : Int) ≤ r_133.toInt ∧ r_133.toInt ≤ 24 := hr_138
              refine lv_istore_n (lv' := [(2, .int r_133), (0, .ref (g 36)), (1, .int x)]) hx hb dX12_start_101 rfl hl (by decide) rfl (fun ls hl => ?_)
              refine lv_aload_n hx hb dX12_start_102 rfl (lv_at hl 1 rfl) ?_
              have hp_139 : (im_135 36 79).toInt = (0 : Int32).toInt := congrArg Int32.toInt (((hfr_136 36 79 (by omega)).trans ((hfr_130 36 79 (by omega)).trans ((hfr_120 36 79 (by omega)).trans ((up2_k _ _ (by decide)).trans ((hfr_j1 36 79 (by omega)).trans ((up2_k _ _ (by decide)).trans ((up2_k _ _ (by decide)).trans (up2_at _ _ _ _)))))))))
              have hl_140 : (0 : Int32).toInt = 0 := rfl
              have hp_141 : (im_135 36 33).toInt = ((i 36 33) : Int32).toInt := congrArg Int32.toInt (((hfr_136 36 33 (by omega)).trans ((hfr_130 36 33 (by omega)).trans ((hfr_120 36 33 (by omega)).trans ((up2_k _ _ (by decide)).trans ((hfr_j1 36 33 (by omega)).trans ((up2_k _ _ (by decide)).trans ((up2_k _ _ (by decide)).trans ((up2_k _ _ (by decide)).trans ((up2_k _ _ (by decide)).trans ((up2_k _ _ (by decide)).trans ((hfr_101 36 33 (by omega)).trans (hfr_5 36 33 (by omega))))))))))))))
              refine x_callv (va_runV (As := []) (rest := []) ⟨hx, hb, hml, hown, hts⟩ (m_seek l D g ka ad im_135 r L d  hO_137 hR H.size (by omega)) (cwV 0 hts gX12_start_X12_seek rfl rfl rfl (by decide +kernel) ⟨(Nat.le_of_ble_eq_true rfl), (Nat.le_of_ble_eq_true rfl)⟩) (x_preV (q := (RX12, TX12, 86)) hH hK (q_obj (by decide) (rfl : kd 36 = 12) (by decide)) rfl gxb (gxw hE hS (x_F hH hS hA))) rfl rfl hl.1 rfl (lv_room (Nat.le_of_ble_eq_true rfl)) dX12_start_103 ⟨(Nat.le_of_ble_eq_true rfl), (Nat.le_of_ble_eq_true rfl)⟩) hH hS hA rfl rfl (fun im_144 H locs hw_143 hH hS => ?_)
              have hH : sj_H D A (hwc g ka im_144 r L d) H := hH
              obtain ⟨hO_146, hfr_145, hx2_147, hx2_148, hx2_149⟩ := hw_143
              have hq79 : (im_135 36 79).toInt = (0 : Int32).toInt := congrArg Int32.toInt (((hfr_136 36 79 (by omega)).trans ((hfr_130 36 79 (by omega)).trans ((hfr_120 36 79 (by omega)).trans ((up2_k _ _ (by decide)).trans ((hfr_j1 36 79 (by omega)).trans ((up2_k _ _ (by decide)).trans ((up2_k _ _ (by decide)).trans (up2_at _ _ _ _)))))))))
              have hl0 : (0 : Int32).toInt = 0 := rfl
              have hp_150 : (im_144 36 77).toInt = (x : Int32).toInt := congrArg Int32.toInt (((hfr_145 36 77 (by omega)).trans ((hfr_136 36 77 (by omega)).trans ((hfr_130 36 77 (by omega)).trans ((hfr_120 36 77 (by omega)).trans ((up2_k _ _ (by decide)).trans ((hfr_j1 36 77 (by omega)).trans ((up2_k _ _ (by decide)).trans ((up2_k _ _ (by decide)).trans ((up2_k _ _ (by decide)).trans ((up2_k _ _ (by decide)).trans (up2_at _ _ _ _))))))))))))
              have hp_151 : (im_144 36 76).toInt = (1 : Int32).toInt := congrArg Int32.toInt (((hfr_145 36 76 (by omega)).trans ((hfr_136 36 76 (by omega)).trans ((hfr_130 36 76 (by omega)).trans ((hfr_120 36 76 (by omega)).trans (up2_at _ _ _ _))))))
              have hl_152 : (1 : Int32).toInt = 1 := rfl
              have hl1 : (1 : Int32).toInt = 1 := rfl
              obtain ⟨hMUs, hres⟩ := mst_run (i := i) (b := im_135) (s := im_144) (d := d) hO_146 hj (mxG_of (i := im_135) (u := im_144) ⟨(hfr_145 36 17 (by omega)), fun a h1 h2 => funext fun b9 => (hfr_145 a b9 (by omega))⟩ (hfr_145 36 33 (by omega)) (hfr_145 36 67 (by omega)) (funext fun b9 => (hfr_145 400 b9 (by omega))) (funext fun b9 => (hfr_145 420 b9 (by omega))) (funext fun b9 => (hfr_145 416 b9 (by omega))) (funext fun b9 => (hfr_145 417 b9 (by omega)))) (mxG_of (i := i) (u := im_135) ⟨((hfr_136 36 17 (by omega)).trans ((hfr_130 36 17 (by omega)).trans ((hfr_120 36 17 (by omega)).trans ((up2_o _ _ (by omega)).trans ((hfr_j1 36 17 (by omega)).trans ((up2_o _ _ (by omega)).trans ((up2_o _ _ (by omega)).trans ((up2_o _ _ (by omega)).trans ((up2_o _ _ (by omega)).trans ((up2_o _ _ (by omega)).trans ((hfr_101 36 17 (by omega)).trans (hfr_5 36 17 (by omega))))))))))))), fun a h1 h2 => funext fun b9 => ((hfr_136 a b9 (by omega)).trans ((hfr_130 a b9 (by omega)).trans ((hfr_120 a b9 (by omega)).trans ((up2_o _ _ (by omega)).trans ((hfr_j1 a b9 (by omega)).trans ((up2_o _ _ (by omega)).trans ((up2_o _ _ (by omega)).trans ((up2_o _ _ (by omega)).trans ((up2_o _ _ (by omega)).trans ((up2_o _ _ (by omega)).trans ((hfr_101 a b9 (by omega)).trans (hfr_5 a b9 (by omega)))))))))))))⟩ ((hfr_136 36 33 (by omega)).trans ((hfr_130 36 33 (by omega)).trans ((hfr_120 36 33 (by omega)).trans ((up2_o _ _ (by omega)).trans ((hfr_j1 36 33 (by omega)).trans ((up2_o _ _ (by omega)).trans ((up2_o _ _ (by omega)).trans ((up2_o _ _ (by omega)).trans ((up2_o _ _ (by omega)).trans ((up2_o _ _ (by omega)).trans ((hfr_101 36 33 (by omega)).trans (hfr_5 36 33 (by omega))))))))))))) ((hfr_136 36 67 (by omega)).trans ((hfr_130 36 67 (by omega)).trans ((hfr_120 36 67 (by omega)).trans ((up2_o _ _ (by omega)).trans ((hfr_j1 36 67 (by omega)).trans ((up2_o _ _ (by omega)).trans ((up2_o _ _ (by omega)).trans ((up2_o _ _ (by omega)).trans ((up2_o _ _ (by omega)).trans ((up2_o _ _ (by omega)).trans ((hfr_101 36 67 (by omega)).trans (hfr_5 36 67 (by omega))))))))))))) (funext fun b9 => ((hfr_136 400 b9 (by omega)).trans ((hfr_130 400 b9 (by omega)).trans ((hfr_120 400 b9 (by omega)).trans ((up2_o _ _ (by omega)).trans ((hfr_j1 400 b9 (by omega)).trans ((up2_o _ _ (by omega)).trans ((up2_o _ _ (by omega)).trans ((up2_o _ _ (by omega)).trans ((up2_o _ _ (by omega)).trans ((up2_o _ _ (by omega)).trans ((hfr_101 400 b9 (by omega)).trans (hfr_5 400 b9 (by omega)))))))))))))) (funext fun b9 => ((hfr_136 420 b9 (by omega)).trans ((hfr_130 420 b9 (by omega)).trans ((hfr_120 420 b9 (by omega)).trans ((up2_o _ _ (by omega)).trans ((hfr_j1 420 b9 (by omega)).trans ((up2_o _ _ (by omega)).trans ((up2_o _ _ (by omega)).trans ((up2_o _ _ (by omega)).trans ((up2_o _ _ (by omega)).trans ((up2_o _ _ (by omega)).trans ((hfr_101 420 b9 (by omega)).trans (hfr_5 420 b9 (by omega)))))))))))))) (funext fun b9 => ((hfr_136 416 b9 (by omega)).trans ((hfr_130 416 b9 (by omega)).trans ((hfr_120 416 b9 (by omega)).trans ((up2_o _ _ (by omega)).trans ((hfr_j1 416 b9 (by omega)).trans ((up2_o _ _ (by omega)).trans ((up2_o _ _ (by omega)).trans ((up2_o _ _ (by omega)).trans ((up2_o _ _ (by omega)).trans ((up2_o _ _ (by omega)).trans ((hfr_101 416 b9 (by omega)).trans (hfr_5 416 b9 (by omega)))))))))))))) (funext fun b9 => ((hfr_136 417 b9 (by omega)).trans ((hfr_130 417 b9 (by omega)).trans ((hfr_120 417 b9 (by omega)).trans ((up2_o _ _ (by omega)).trans ((hfr_j1 417 b9 (by omega)).trans ((up2_o _ _ (by omega)).trans ((up2_o _ _ (by omega)).trans ((up2_o _ _ (by omega)).trans ((up2_o _ _ (by omega)).trans ((up2_o _ _ (by omega)).trans ((hfr_101 417 b9 (by omega)).trans (hfr_5 417 b9 (by omega))))))))))))))) (by omega) (by omega) (funext fun b9 => ((hfr_145 427 b9 (by omega)).trans ((hfr_136 427 b9 (by omega)).trans ((hfr_130 427 b9 (by omega)).trans ((hfr_120 427 b9 (by omega)).trans ((up2_o _ _ (by omega)).trans ((hfr_j1 427 b9 (by omega)).trans ((up2_o _ _ (by omega)).trans ((up2_o _ _ (by omega)).trans ((up2_o _ _ (by omega)).trans ((up2_o _ _ (by omega)).trans ((up2_o _ _ (by omega)).trans ((hfr_101 427 b9 (by omega)).trans (hfr_5 427 b9 (by omega))))))))))))))) hx2_147 hx2_148 hx2_149
              refine lv_aload_n hx hb dX12_start_106 rfl (lv_at hl 1 rfl) ?_
              have hp_153 : (im_144 36 81).toInt = ((im_129 36 81) : Int32).toInt := congrArg Int32.toInt (((hfr_145 36 81 (by omega)).trans (hfr_136 36 81 (by omega))))
              refine x_callv (va_runV (As := []) (rest := []) ⟨hx, hb, hml, hown, hts⟩ (m_settle2 l D g ka ad im_144 r L d  hO_146 hR H.size (by first | omega | decide)) (cwV 0 hts gX12_start_X12_settle rfl rfl rfl (by decide +kernel) ⟨(Nat.le_of_ble_eq_true rfl), (Nat.le_of_ble_eq_true rfl)⟩) (x_preV (q := (RX12, TX12, 86)) hH hK (q_obj (by decide) (rfl : kd 36 = 12) (by decide)) rfl gxb (gxw hE hS (x_F hH hS hA))) rfl rfl hl.1 rfl (lv_room (Nat.le_of_ble_eq_true rfl)) dX12_start_107 ⟨(Nat.le_of_ble_eq_true rfl), (Nat.le_of_ble_eq_true rfl)⟩) hH hS hA rfl rfl (fun im_156 H locs hw_155 hH hS => ?_)
              have hH : sj_H D A (hwc g ka im_156 r L d) H := hH
              obtain ⟨hO_158, hfr_157, hx2_159, hx2_160⟩ := hw_155
              have hp_161 : (im_156 36 76).toInt = ((im_156 36 76) : Int32).toInt := rfl
              have hp_162 : (im_156 36 77).toInt = (x : Int32).toInt := congrArg Int32.toInt (((hfr_157 36 77 (by omega)).trans ((hfr_145 36 77 (by omega)).trans ((hfr_136 36 77 (by omega)).trans ((hfr_130 36 77 (by omega)).trans ((hfr_120 36 77 (by omega)).trans ((up2_k _ _ (by decide)).trans ((hfr_j1 36 77 (by omega)).trans ((up2_k _ _ (by decide)).trans ((up2_k _ _ (by decide)).trans ((up2_k _ _ (by decide)).trans ((up2_k _ _ (by decide)).trans (up2_at _ _ _ _)))))))))))))
              have hp_163 : (im_156 36 78).toInt = (0 : Int32).toInt := congrArg Int32.toInt (((hfr_157 36 78 (by omega)).trans ((hfr_145 36 78 (by omega)).trans ((hfr_136 36 78 (by omega)).trans ((hfr_130 36 78 (by omega)).trans ((hfr_120 36 78 (by omega)).trans ((up2_k _ _ (by decide)).trans ((hfr_j1 36 78 (by omega)).trans ((up2_k _ _ (by decide)).trans ((up2_k _ _ (by decide)).trans ((up2_k _ _ (by decide)).trans (up2_at _ _ _ _))))))))))))
              have hl_164 : (0 : Int32).toInt = 0 := rfl
              obtain ⟨hMI7, hre7, hk7, hp7⟩ := MI_set (i := im_144) (d := d) hO_146 rfl (mxE_of (i := im_144) (u := im_156) ⟨(hfr_157 36 17 (by omega)), fun a h1 h2 => funext fun b9 => (hfr_157 a b9 (by omega))⟩ (hfr_157 36 33 (by omega)) (hfr_157 36 67 (by omega)) (hfr_157 36 77 (by omega)) (funext fun b9 => (hfr_157 400 b9 (by omega))) (funext fun b9 => (hfr_157 420 b9 (by omega))) (funext fun b9 => (hfr_157 416 b9 (by omega))) (funext fun b9 => (hfr_157 417 b9 (by omega)))) (hfr_157 36 79 (by omega)) (funext fun b9 => (hfr_157 427 b9 (by omega))) (funext fun b9 => (hfr_157 428 b9 (by omega))) (funext fun b9 => (hfr_157 429 b9 (by omega))) hMUs (by omega) (by omega) hx2_159
              refine lv_iload_n hx hb dX12_start_110 rfl (lv_at hl 0 rfl) ?_
              have hV_165 : MI im_156 d := hMI7
              have hp_166 : (im_156 36 76).toInt = ((im_156 36 76) : Int32).toInt := rfl
              have hV_167 : ((x.toInt < 1 ∨ 3 < x.toInt) ∧ (im_156 36 76).toInt = 0) ∨ ((1 ≤ x.toInt ∧ x.toInt ≤ 3) ∧ mrest im_156 = murem i 0 ∧ ((0 < murem i 0 ∧ (im_156 36 76).toInt = 1) ∨ (murem i 0 ≤ 0 ∧ (im_156 36 76).toInt = 0))) := (Or.inr ⟨⟨by omega, by omega⟩, by omega, by rcases hk7 with ⟨h1, h2⟩ | ⟨h1, h2⟩; exact Or.inl ⟨by omega, h2⟩; exact Or.inr ⟨by omega, h2⟩⟩)
              have hp_168 : (im_156 36 81).toInt = ((im_156 36 81) : Int32).toInt := rfl
              have hV_169 : ((im_156 36 81).toInt ≤ (i 36 81).toInt + 2) := (by omega)
              exact sj_zret hx hb hr hlocks rfl hS im_156 ⟨hO_158, (fun a b ha => ((hfr_157 a b (by omega)).trans ((hfr_145 a b (by omega)).trans ((hfr_136 a b (by omega)).trans ((hfr_130 a b (by omega)).trans ((hfr_120 a b (by omega)).trans ((up2_o _ _ (by omega)).trans ((hfr_j1 a b (by omega)).trans ((up2_o _ _ (by omega)).trans ((up2_o _ _ (by omega)).trans ((up2_o _ _ (by omega)).trans ((up2_o _ _ (by omega)).trans ((up2_o _ _ (by omega)).trans ((hfr_101 a b (by omega)).trans (hfr_5 a b (by omega)))))))))))))))), hV_165, hV_167, hV_169⟩ hH (sj_Knil hK) (Nat.le_of_ble_eq_true rfl) (Nat.le_of_ble_eq_true rfl) dX12_start_111
            · skip
              have h_170 := s_nle (rfl : (i 36 33).toInt = _) (rfl : f.toInt = _) c_114
              refine lv_aload_n hx hb dX12_start_68 rfl (lv_at hl 1 rfl) ?_
              refine h_getr (ci := 12) (C := RX12) (F := TX12) (N := 86) hx hb hts in12 hown hK hH (by decide) (rfl : kd 36 = 12) (by decide) rfl 38 (by decide) wd7 (fun _ h9 => h9) (by decide) rfl (t := 401) (hR 36 38 rfl) (by decide) dX12_start_69 ?_
              refine lv_iload_n hx hb dX12_start_72 rfl (lv_at hl 0 rfl) ?_
              refine lv_iconst (v := (-1)) hx hb dX12_start_73 (by decide) ?_
              have hO_171 := okp hO_j1 (n := 401) (k := (f.toInt).toNat) (v := (-1)) (show (-1 : Int) ≤ ((-1) : Int32).toInt ∧ ((-1) : Int32).toInt ≤ 5 from ⟨by decide, by decide⟩)
              refine h_iast hx hb hK hH hS (by decide) (rfl : kd 401 = 13) (s_vin (N := 24) (rfl : f.toInt = _) (rfl : ln 401 = 24) (by omega) (by omega)) dX12_start_74 (fun H locs hH hS => ?_)
              rw [s_cl (show f.toInt = f.toInt by omega)] at hH
              obtain ⟨z_172, ez_172, hz_172⟩ := s_add (rfl : f.toInt = _) (show (1 : Int32).toInt = 1 from rfl) (by omega) (by omega)
              refine lv_iinc (v := z_172) (lv' := [(2, .int z_172), (0, .ref (g 36)), (1, .int x)]) hx hb dX12_start_75 hl (k := 0) rfl ez_172 (by decide) rfl (fun ls hl => ?_)
              refine lv_goto (tgt := 60) hx hb dX12_start_78 (by decide) ?_
              exact ih_lp_112 z_172 _ _ _ ls (by omega) (by omega) (by omega) hO_171 (fun a b ha => ((up2_o _ _ (by omega)).trans (hfr_j1 a b (by omega)))) (lv_sub hl [0, 1, 2] rfl) hH hS
        have hl_173 : (0 : Int32).toInt = 0 := rfl
        exact lp_112 _ 0 _ _ _ ls (Nat.lt_succ_self _) (by omega) (by omega) hO_111 (fun a b ha => rfl) (lv_sub hl [0, 1, 2] rfl) hH hS
      · skip
        have h_174 := s_ne (rfl : r_98.toInt = _) (show (0 : Int32).toInt = 0 from rfl) c_105
        refine lv_iconst (v := 0) hx hb dX12_start_31 (by decide) ?_
        have hV_175 : MI im_100 d := (MI_off (i := i) hMI hb76 ((hfr_101 36 76 (by omega)).trans (hfr_5 36 76 (by omega))) (funext fun b9 => ((hfr_101 427 b9 (by omega)).trans (hfr_5 427 b9 (by omega)))))
        have hp_176 : (im_100 36 76).toInt = ((i 36 76) : Int32).toInt := congrArg Int32.toInt (((hfr_101 36 76 (by omega)).trans (hfr_5 36 76 (by omega))))
        have hV_177 : ((x.toInt < 1 ∨ 3 < x.toInt) ∧ (im_100 36 76).toInt = 0) ∨ ((1 ≤ x.toInt ∧ x.toInt ≤ 3) ∧ mrest im_100 = murem i 0 ∧ ((0 < murem i 0 ∧ (im_100 36 76).toInt = 1) ∨ (murem i 0 ≤ 0 ∧ (im_100 36 76).toInt = 0))) := (Or.inl ⟨by omega, by omega⟩)
        have hp_178 : (im_100 36 81).toInt = ((i 36 81) : Int32).toInt := congrArg Int32.toInt (((hfr_101 36 81 (by omega)).trans (hfr_5 36 81 (by omega))))
        have hV_179 : ((im_100 36 81).toInt ≤ (i 36 81).toInt + 2) := (by omega)
        exact sj_zret hx hb hr hlocks rfl hS im_100 ⟨hO_102, (fun a b ha => ((hfr_101 a b (by omega)).trans (hfr_5 a b (by omega)))), hV_175, hV_177, hV_179⟩ hH (sj_Knil hK) (Nat.le_of_ble_eq_true rfl) (Nat.le_of_ble_eq_true rfl) dX12_start_32
    · skip
      have h_180 := s_nle (rfl : x.toInt = _) (show (3 : Int32).toInt = 3 from rfl) c_95
      refine lv_iconst (v := 2) hx hb dX12_start_20 (by decide) ?_
      refine lv_goto (tgt := 25) hx hb dX12_start_21 (by decide) ?_
      have hl_181 : (2 : Int32).toInt = 2 := rfl
      refine x_calli (va_runV (As := [.int 2]) (rest := []) ⟨hx, hb, hml, hown, hts⟩ (m_throwsNow l D g ka ad im_4 r L d 2 hO_6 hR H.size (by first | omega | decide) (by first | omega | decide)) (cwV 1 hts gX12_start_X12_throwsNow rfl rfl rfl (by decide +kernel) ⟨(Nat.le_of_ble_eq_true rfl), (Nat.le_of_ble_eq_true rfl)⟩) (x_preV (q := (RX12, TX12, 86)) hH hK (q_obj (by decide) (rfl : kd 36 = 12) (by decide)) rfl gxb (gxw hE hS (x_F hH hS hA))) rfl rfl hl.1 rfl (lv_room (Nat.le_of_ble_eq_true rfl)) dX12_start_25 ⟨(Nat.le_of_ble_eq_true rfl), (Nat.le_of_ble_eq_true rfl)⟩) hH hS hA rfl rfl (fun r_182 im_184 H locs hw_183 hH hS => ?_)
      have hH : sj_H D A (hwc g ka im_184 r L d) H := hH
      obtain ⟨hO_186, hfr_185, hr_187, he_188⟩ := hw_183
      have hr_187 : (0 : Int) ≤ r_182.toInt ∧ r_182.toInt ≤ 1 := hr_187
      refine lv_if_eq (tgt := 33) hx hb dX12_start_28 (by decide) (fun c_189 => ?_) (fun c_189 => ?_)
      · skip
        have h_190 := s_eq (rfl : r_182.toInt = _) (show (0 : Int32).toInt = 0 from rfl) c_189
        refine lv_aload_n hx hb dX12_start_33 rfl (lv_at hl 0 rfl) ?_
        refine lv_iload_n hx hb dX12_start_34 rfl (lv_at hl 1 rfl) ?_
        have hO_191 := okp hO_186 (n := 36) (k := 77) (v := x) (show (0 : Int) ≤ (x : Int32).toInt ∧ (x : Int32).toInt ≤ 3 from ⟨by omega, by omega⟩)
        refine h_puti (ty := .int) (ci := 12) (C := RX12) (F := TX12) (N := 86) hx hb hts in12 tyX12 tyX12_ok nmX12 hown hK hH hS (by decide) (rfl : kd 36 = 12) (by decide) rfl 77 (by decide) wd0 (fun _ h9 => h9) rfl (by decide +kernel) rfl rfl (by decide) rfl dX12_start_35 (fun H locs hH hS => ?_)
        refine lv_aload_n hx hb dX12_start_38 rfl (lv_at hl 0 rfl) ?_
        refine lv_iconst (v := 0) hx hb dX12_start_39 (by decide) ?_
        have hO_192 := okp hO_191 (n := 36) (k := 78) (v := 0) (show (0 : Int) ≤ (0 : Int32).toInt ∧ (0 : Int32).toInt ≤ 2 from ⟨by decide, by decide⟩)
        refine h_puti (ty := .int) (ci := 12) (C := RX12) (F := TX12) (N := 86) hx hb hts in12 tyX12 tyX12_ok nmX12 hown hK hH hS (by decide) (rfl : kd 36 = 12) (by decide) rfl 78 (by decide) wd1 (fun _ h9 => h9) rfl (by decide +kernel) rfl rfl (by decide) rfl dX12_start_40 (fun H locs hH hS => ?_)
        refine lv_aload_n hx hb dX12_start_43 rfl (lv_at hl 0 rfl) ?_
        refine lv_iconst (v := 0) hx hb dX12_start_44 (by decide) ?_
        have hO_193 := okp hO_192 (n := 36) (k := 79) (v := 0) (show (0 : Int) ≤ (0 : Int32).toInt ∧ (0 : Int32).toInt ≤ 24 from ⟨by decide, by decide⟩)
        refine h_puti (ty := .int) (ci := 12) (C := RX12) (F := TX12) (N := 86) hx hb hts in12 tyX12 tyX12_ok nmX12 hown hK hH hS (by decide) (rfl : kd 36 = 12) (by decide) rfl 79 (by decide) wd2 (fun _ h9 => h9) rfl (by decide +kernel) rfl rfl (by decide) rfl dX12_start_45 (fun H locs hH hS => ?_)
        refine lv_aload_n hx hb dX12_start_48 rfl (lv_at hl 0 rfl) ?_
        refine lv_iconst (v := 0) hx hb dX12_start_49 (by decide) ?_
        have hO_194 := okp hO_193 (n := 36) (k := 80) (v := 0) (show (0 : Int) ≤ (0 : Int32).toInt ∧ (0 : Int32).toInt ≤ 5 from ⟨by decide, by decide⟩)
        refine h_puti (ty := .int) (ci := 12) (C := RX12) (F := TX12) (N := 86) hx hb hts in12 tyX12 tyX12_ok nmX12 hown hK hH hS (by decide) (rfl : kd 36 = 12) (by decide) rfl 80 (by decide) wd3 (fun _ h9 => h9) rfl (by decide +kernel) rfl rfl (by decide) rfl dX12_start_50 (fun H locs hH hS => ?_)
        refine lv_aload_n hx hb dX12_start_53 rfl (lv_at hl 0 rfl) ?_
        refine lv_iconst (v := 0) hx hb dX12_start_54 (by decide) ?_
        have hO_195 := okp hO_194 (n := 36) (k := 75) (v := 0) (show (-2147483648 : Int) ≤ (0 : Int32).toInt ∧ (0 : Int32).toInt ≤ 2147483647 from s_rng 0)
        refine h_puti (ty := .int) (ci := 12) (C := RX12) (F := TX12) (N := 86) hx hb hts in12 tyX12 tyX12_ok nmX12 hown hK hH hS (by decide) (rfl : kd 36 = 12) (by decide) rfl 75 (by decide) wd4 (fun _ h9 => h9) rfl (by decide +kernel) rfl rfl (by decide) rfl dX12_start_55 (fun H locs hH hS => ?_)
        refine lv_iconst (v := 0) hx hb dX12_start_58 (by decide) ?_
        refine lv_istore_n (lv' := [(2, .int 0), (0, .ref (g 36)), (1, .int x)]) hx hb dX12_start_59 rfl hl (by decide) rfl (fun ls hl => ?_)
        -- loop at 60
        have lp_196 : ∀ (fuel_lp_196 : Nat) (f : Int32) (j1 : Nat → Nat → Int32) (H : Heap) (locs : List Loc) (ls : Array Slot), (24 - f.toInt).toNat < fuel_lp_196 → (0 : Int) ≤ f.toInt ∧ f.toInt ≤ 24 → f.toInt ≤ (i 36 33).toInt → OkI j1 → (∀ a b, ¬ (a = 401) → j1 a b = (up2 (up2 (up2 (up2 (up2 im_184 36 77 x) 36 78 0) 36 79 0) 36 80 0) 36 75 0) a b) → lv_has ls 3 [(2, .int f), (0, .ref (g 36)), (1, .int x)] → sj_H D A (hwc g ka j1 r L d) H → va_S A s.heap H locs → W p l e (headSpec wsX12_start ({ frames := 6, cells := 0, slots := 0, locals := 135 })).room s m ([.ref (g 36), .int x] : List Value).toArray below meth c H locs 0 0 (MQ below (sj_Qi (S := (Nat → Nat → Int32)) D (fun v u => OkI u ∧ (∀ a b, ¬ ((a = 36 ∧ (b = 0 ∨ b = 65 ∨ b = 66 ∨ b = 75 ∨ b = 76 ∨ b = 77 ∨ b = 78 ∨ b = 79 ∨ b = 80 ∨ b = 81)) ∨ a = 401 ∨ a = 418 ∨ a = 419 ∨ a = 426) → u a b = i a b) ∧ (MI u d) ∧ (((x.toInt < 1 ∨ 3 < x.toInt) ∧ (u 36 76).toInt = 0) ∨ ((1 ≤ x.toInt ∧ x.toInt ≤ 3) ∧ mrest u = murem i 0 ∧ ((0 < murem i 0 ∧ (u 36 76).toInt = 1) ∨ (murem i 0 ≤ 0 ∧ (u 36 76).toInt = 0)))) ∧ (((u 36 81).toInt ≤ (i 36 81).toInt + 2))) (fun u => hwc g ka u r L d) (fun _ => []) A) ([.ref (g 36), .int x] : List Value).toArray s 0 0 A) (F0 m 60 ls []) := by
          intro fuel_lp_196
          induction fuel_lp_196 with
          | zero => intros; omega
          | succ fuel_lp_196 ih_lp_196 =>
            intro f j1 H locs ls hm hr_f hi_lp_196_0 hO_j1 hfr_j1 hl hH hS
            refine lv_iload_n hx hb dX12_start_60 rfl (lv_at hl 0 rfl) ?_
            refine lv_aload_n hx hb dX12_start_61 rfl (lv_at hl 1 rfl) ?_
            have bx_197 : (0 : Int) ≤ (i 36 33).toInt ∧ (i 36 33).toInt ≤ 24 := hO 36 33
            refine h_geti (ci := 12) (C := RX12) (F := TX12) (N := 86) hx hb hts in12 hown hK hH (by decide) (rfl : kd 36 = 12) (by decide) rfl 33 (by decide) wd5 (fun _ h9 => h9) (by decide) rfl dX12_start_62 ?_
            refine sj_i (y := (i 36 33)) ((hfr_j1 36 33 (by omega)).trans ((up2_k _ _ (by decide)).trans ((up2_k _ _ (by decide)).trans ((up2_k _ _ (by decide)).trans ((up2_k _ _ (by decide)).trans ((up2_k _ _ (by decide)).trans ((hfr_185 36 33 (by omega)).trans (hfr_5 36 33 (by omega))))))))) ?_
            refine lv_icmp_ge (tgt := 81) hx hb dX12_start_65 (by decide) (fun c_198 => ?_) (fun c_198 => ?_)
            · skip
              have h_199 := s_le (rfl : (i 36 33).toInt = _) (rfl : f.toInt = _) c_198
              refine lv_aload_n hx hb dX12_start_81 rfl (lv_at hl 1 rfl) ?_
              refine lv_iconst (v := 1) hx hb dX12_start_82 (by decide) ?_
              have hO_200 := okp hO_j1 (n := 36) (k := 76) (v := 1) (show (0 : Int) ≤ (1 : Int32).toInt ∧ (1 : Int32).toInt ≤ 1 from ⟨by decide, by decide⟩)
              refine h_puti (ty := .boolean) (ci := 12) (C := RX12) (F := TX12) (N := 86) hx hb hts in12 tyX12 tyX12_ok nmX12 hown hK hH hS (by decide) (rfl : kd 36 = 12) (by decide) rfl 76 (by decide) wd6 (fun _ h9 => h9) rfl (by decide +kernel) (by decide +kernel) (by decide +kernel) (by decide) rfl dX12_start_83 (fun H locs hH hS => ?_)
              refine lv_aload_n hx hb dX12_start_86 rfl (lv_at hl 1 rfl) ?_
              refine lv_iconst (v := 0) hx hb dX12_start_87 (by decide) ?_
              refine lv_aload_n hx hb dX12_start_88 rfl (lv_at hl 1 rfl) ?_
              refine x_calli (va_runV (As := []) (rest := [.int 0, .ref (g 36)]) ⟨hx, hb, hml, hown, hts⟩ (m_wanted l D g ka ad (up2 j1 36 76 1) r L d  hO_200 hR H.size ) (cwV 0 hts gX12_start_X12_wanted rfl rfl rfl (by decide +kernel) ⟨(Nat.le_of_ble_eq_true rfl), (Nat.le_of_ble_eq_true rfl)⟩) (x_preV (q := (RX12, TX12, 86)) hH hK (q_obj (by decide) (rfl : kd 36 = 12) (by decide)) rfl gxb (gxw hE hS (x_F hH hS hA))) rfl rfl hl.1 rfl (lv_room (Nat.le_of_ble_eq_true rfl)) dX12_start_89 ⟨(Nat.le_of_ble_eq_true rfl), (Nat.le_of_ble_eq_true rfl)⟩) hH hS hA rfl rfl (fun r_201 im_203 H locs hw_202 hH hS => ?_)
              have hH : sj_H D A (hwc g ka im_203 r L d) H := hH
              obtain ⟨hO_205, hfr_204, hr_206⟩ := hw_202
              have hr_206 : (0 : Int) ≤ r_201.toInt ∧ r_201.toInt ≤ 24 := hr_206
              refine lv_iload_n hx hb dX12_start_92 rfl (lv_at hl 2 rfl) ?_
              refine lv_iconst (v := 0) hx hb dX12_start_93 (by decide) ?_
              have hl_207 : (0 : Int32).toInt = 0 := rfl
              have hl_208 : (0 : Int32).toInt = 0 := rfl
              have hp_209 : (im_203 36 81).toInt = ((i 36 81) : Int32).toInt := congrArg Int32.toInt (((hfr_204 36 81 (by omega)).trans ((up2_k _ _ (by decide)).trans ((hfr_j1 36 81 (by omega)).trans ((up2_k _ _ (by decide)).trans ((up2_k _ _ (by decide)).trans ((up2_k _ _ (by decide)).trans ((up2_k _ _ (by decide)).trans ((up2_k _ _ (by decide)).trans ((hfr_185 36 81 (by omega)).trans (hfr_5 36 81 (by omega))))))))))))
              have hp_210 : (im_203 36 81).toInt = ((i 36 81) : Int32).toInt := congrArg Int32.toInt (((hfr_204 36 81 (by omega)).trans ((up2_k _ _ (by decide)).trans ((hfr_j1 36 81 (by omega)).trans ((up2_k _ _ (by decide)).trans ((up2_k _ _ (by decide)).trans ((up2_k _ _ (by decide)).trans ((up2_k _ _ (by decide)).trans ((up2_k _ _ (by decide)).trans ((hfr_185 36 81 (by omega)).trans (hfr_5 36 81 (by omega))))))))))))
              refine x_callv (va_runV (As := [.int 0, .int r_201, .int x, .int 0]) (rest := []) ⟨hx, hb, hml, hown, hts⟩ (m_tell l D g ka ad im_203 r L d 0 r_201 x 0 hO_205 hR H.size (by omega)) (cwV 4 hts gX12_start_X12_tell rfl rfl rfl (by decide +kernel) ⟨(Nat.le_of_ble_eq_true rfl), (Nat.le_of_ble_eq_true rfl)⟩) (x_preV (q := (RX12, TX12, 86)) hH hK (q_obj (by decide) (rfl : kd 36 = 12) (by decide)) rfl gxb (gxw hE hS (x_F hH hS hA))) rfl rfl hl.1 rfl (lv_room (Nat.le_of_ble_eq_true rfl)) dX12_start_94 ⟨(Nat.le_of_ble_eq_true rfl), (Nat.le_of_ble_eq_true rfl)⟩) hH hS hA rfl rfl (fun im_213 H locs hw_212 hH hS => ?_)
              have hH : sj_H D A (hwc g ka im_213 r L d) H := hH
              obtain ⟨hO_215, hfr_214, he_216⟩ := hw_212
              refine lv_aload_n hx hb dX12_start_97 rfl (lv_at hl 1 rfl) ?_
              refine x_calli (va_runV (As := []) (rest := []) ⟨hx, hb, hml, hown, hts⟩ (m_wanted l D g ka ad im_213 r L d  hO_215 hR H.size ) (cwV 0 hts gX12_start_X12_wanted rfl rfl rfl (by decide +kernel) ⟨(Nat.le_of_ble_eq_true rfl), (Nat.le_of_ble_eq_true rfl)⟩) (x_preV (q := (RX12, TX12, 86)) hH hK (q_obj (by decide) (rfl : kd 36 = 12) (by decide)) rfl gxb (gxw hE hS (x_F hH hS hA))) rfl rfl hl.1 rfl (lv_room (Nat.le_of_ble_eq_true rfl)) dX12_start_98 ⟨(Nat.le_of_ble_eq_true rfl), (Nat.le_of_ble_eq_true rfl)⟩) hH hS hA rfl rfl (fun r_217 im_219 H locs hw_218 hH hS => ?_)
              have hH : sj_H D A (hwc g ka im_219 r L d) H := hH
              obtain ⟨hO_221, hfr_220, hr_222⟩ := hw_218
              have hr_222 : (0 : Int) ≤ r_217.toInt ∧ r_217.toInt ≤ 24 := hr_222
              refine lv_istore_n (lv' := [(2, .int r_217), (0, .ref (g 36)), (1, .int x)]) hx hb dX12_start_101 rfl hl (by decide) rfl (fun ls hl => ?_)
              refine lv_aload_n hx hb dX12_start_102 rfl (lv_at hl 1 rfl) ?_
              have hp_223 : (im_219 36 79).toInt = (0 : Int32).toInt := congrArg Int32.toInt (((hfr_220 36 79 (by omega)).trans ((hfr_214 36 79 (by omega)).trans ((hfr_204 36 79 (by omega)).trans ((up2_k _ _ (by decide)).trans ((hfr_j1 36 79 (by omega)).trans ((up2_k _ _ (by decide)).trans ((up2_k _ _ (by decide)).trans (up2_at _ _ _ _)))))))))
              have hl_224 : (0 : Int32).toInt = 0 := rfl
              have hp_225 : (im_219 36 33).toInt = ((i 36 33) : Int32).toInt := congrArg Int32.toInt (((hfr_220 36 33 (by omega)).trans ((hfr_214 36 33 (by omega)).trans ((hfr_204 36 33 (by omega)).trans ((up2_k _ _ (by decide)).trans ((hfr_j1 36 33 (by omega)).trans ((up2_k _ _ (by decide)).trans ((up2_k _ _ (by decide)).trans ((up2_k _ _ (by decide)).trans ((up2_k _ _ (by decide)).trans ((up2_k _ _ (by decide)).trans ((hfr_185 36 33 (by omega)).trans (hfr_5 36 33 (by omega))))))))))))))
              refine x_callv (va_runV (As := []) (rest := []) ⟨hx, hb, hml, hown, hts⟩ (m_seek l D g ka ad im_219 r L d  hO_221 hR H.size (by omega)) (cwV 0 hts gX12_start_X12_seek rfl rfl rfl (by decide +kernel) ⟨(Nat.le_of_ble_eq_true rfl), (Nat.le_of_ble_eq_true rfl)⟩) (x_preV (q := (RX12, TX12, 86)) hH hK (q_obj (by decide) (rfl : kd 36 = 12) (by decide)) rfl gxb (gxw hE hS (x_F hH hS hA))) rfl rfl hl.1 rfl (lv_room (Nat.le_of_ble_eq_true rfl)) dX12_start_103 ⟨(Nat.le_of_ble_eq_true rfl), (Nat.le_of_ble_eq_true rfl)⟩) hH hS hA rfl rfl (fun im_228 H locs hw_227 hH hS => ?_)
              have hH : sj_H D A (hwc g ka im_228 r L d) H := hH
              obtain ⟨hO_230, hfr_229, hx2_231, hx2_232, hx2_233⟩ := hw_227
              have hq79 : (im_219 36 79).toInt = (0 : Int32).toInt := congrArg Int32.toInt (((hfr_220 36 79 (by omega)).trans ((hfr_214 36 79 (by omega)).trans ((hfr_204 36 79 (by omega)).trans ((up2_k _ _ (by decide)).trans ((hfr_j1 36 79 (by omega)).trans ((up2_k _ _ (by decide)).trans ((up2_k _ _ (by decide)).trans (up2_at _ _ _ _)))))))))
              have hl0 : (0 : Int32).toInt = 0 := rfl
              have hp_234 : (im_228 36 77).toInt = (x : Int32).toInt := congrArg Int32.toInt (((hfr_229 36 77 (by omega)).trans ((hfr_220 36 77 (by omega)).trans ((hfr_214 36 77 (by omega)).trans ((hfr_204 36 77 (by omega)).trans ((up2_k _ _ (by decide)).trans ((hfr_j1 36 77 (by omega)).trans ((up2_k _ _ (by decide)).trans ((up2_k _ _ (by decide)).trans ((up2_k _ _ (by decide)).trans ((up2_k _ _ (by decide)).trans (up2_at _ _ _ _))))))))))))
              have hp_235 : (im_228 36 76).toInt = (1 : Int32).toInt := congrArg Int32.toInt (((hfr_229 36 76 (by omega)).trans ((hfr_220 36 76 (by omega)).trans ((hfr_214 36 76 (by omega)).trans ((hfr_204 36 76 (by omega)).trans (up2_at _ _ _ _))))))
              have hl_236 : (1 : Int32).toInt = 1 := rfl
              have hl1 : (1 : Int32).toInt = 1 := rfl
              obtain ⟨hMUs, hres⟩ := mst_run (i := i) (b := im_219) (s := im_228) (d := d) hO_230 hj (mxG_of (i := im_219) (u := im_228) ⟨(hfr_229 36 17 (by omega)), fun a h1 h2 => funext fun b9 => (hfr_229 a b9 (by omega))⟩ (hfr_229 36 33 (by omega)) (hfr_229 36 67 (by omega)) (funext fun b9 => (hfr_229 400 b9 (by omega))) (funext fun b9 => (hfr_229 420 b9 (by omega))) (funext fun b9 => (hfr_229 416 b9 (by omega))) (funext fun b9 => (hfr_229 417 b9 (by omega)))) (mxG_of (i := i) (u := im_219) ⟨((hfr_220 36 17 (by omega)).trans ((hfr_214 36 17 (by omega)).trans ((hfr_204 36 17 (by omega)).trans ((up2_o _ _ (by omega)).trans ((hfr_j1 36 17 (by omega)).trans ((up2_o _ _ (by omega)).trans ((up2_o _ _ (by omega)).trans ((up2_o _ _ (by omega)).trans ((up2_o _ _ (by omega)).trans ((up2_o _ _ (by omega)).trans ((hfr_185 36 17 (by omega)).trans (hfr_5 36 17 (by omega))))))))))))), fun a h1 h2 => funext fun b9 => ((hfr_220 a b9 (by omega)).trans ((hfr_214 a b9 (by omega)).trans ((hfr_204 a b9 (by omega)).trans ((up2_o _ _ (by omega)).trans ((hfr_j1 a b9 (by omega)).trans ((up2_o _ _ (by omega)).trans ((up2_o _ _ (by omega)).trans ((up2_o _ _ (by omega)).trans ((up2_o _ _ (by omega)).trans ((up2_o _ _ (by omega)).trans ((hfr_185 a b9 (by omega)).trans (hfr_5 a b9 (by omega)))))))))))))⟩ ((hfr_220 36 33 (by omega)).trans ((hfr_214 36 33 (by omega)).trans ((hfr_204 36 33 (by omega)).trans ((up2_o _ _ (by omega)).trans ((hfr_j1 36 33 (by omega)).trans ((up2_o _ _ (by omega)).trans ((up2_o _ _ (by omega)).trans ((up2_o _ _ (by omega)).trans ((up2_o _ _ (by omega)).trans ((up2_o _ _ (by omega)).trans ((hfr_185 36 33 (by omega)).trans (hfr_5 36 33 (by omega))))))))))))) ((hfr_220 36 67 (by omega)).trans ((hfr_214 36 67 (by omega)).trans ((hfr_204 36 67 (by omega)).trans ((up2_o _ _ (by omega)).trans ((hfr_j1 36 67 (by omega)).trans ((up2_o _ _ (by omega)).trans ((up2_o _ _ (by omega)).trans ((up2_o _ _ (by omega)).trans ((up2_o _ _ (by omega)).trans ((up2_o _ _ (by omega)).trans ((hfr_185 36 67 (by omega)).trans (hfr_5 36 67 (by omega))))))))))))) (funext fun b9 => ((hfr_220 400 b9 (by omega)).trans ((hfr_214 400 b9 (by omega)).trans ((hfr_204 400 b9 (by omega)).trans ((up2_o _ _ (by omega)).trans ((hfr_j1 400 b9 (by omega)).trans ((up2_o _ _ (by omega)).trans ((up2_o _ _ (by omega)).trans ((up2_o _ _ (by omega)).trans ((up2_o _ _ (by omega)).trans ((up2_o _ _ (by omega)).trans ((hfr_185 400 b9 (by omega)).trans (hfr_5 400 b9 (by omega)))))))))))))) (funext fun b9 => ((hfr_220 420 b9 (by omega)).trans ((hfr_214 420 b9 (by omega)).trans ((hfr_204 420 b9 (by omega)).trans ((up2_o _ _ (by omega)).trans ((hfr_j1 420 b9 (by omega)).trans ((up2_o _ _ (by omega)).trans ((up2_o _ _ (by omega)).trans ((up2_o _ _ (by omega)).trans ((up2_o _ _ (by omega)).trans ((up2_o _ _ (by omega)).trans ((hfr_185 420 b9 (by omega)).trans (hfr_5 420 b9 (by omega)))))))))))))) (funext fun b9 => ((hfr_220 416 b9 (by omega)).trans ((hfr_214 416 b9 (by omega)).trans ((hfr_204 416 b9 (by omega)).trans ((up2_o _ _ (by omega)).trans ((hfr_j1 416 b9 (by omega)).trans ((up2_o _ _ (by omega)).trans ((up2_o _ _ (by omega)).trans ((up2_o _ _ (by omega)).trans ((up2_o _ _ (by omega)).trans ((up2_o _ _ (by omega)).trans ((hfr_185 416 b9 (by omega)).trans (hfr_5 416 b9 (by omega)))))))))))))) (funext fun b9 => ((hfr_220 417 b9 (by omega)).trans ((hfr_214 417 b9 (by omega)).trans ((hfr_204 417 b9 (by omega)).trans ((up2_o _ _ (by omega)).trans ((hfr_j1 417 b9 (by omega)).trans ((up2_o _ _ (by omega)).trans ((up2_o _ _ (by omega)).trans ((up2_o _ _ (by omega)).trans ((up2_o _ _ (by omega)).trans ((up2_o _ _ (by omega)).trans ((hfr_185 417 b9 (by omega)).trans (hfr_5 417 b9 (by omega))))))))))))))) (by omega) (by omega) (funext fun b9 => ((hfr_229 427 b9 (by omega)).trans ((hfr_220 427 b9 (by omega)).trans ((hfr_214 427 b9 (by omega)).trans ((hfr_204 427 b9 (by omega)).trans ((up2_o _ _ (by omega)).trans ((hfr_j1 427 b9 (by omega)).trans ((up2_o _ _ (by omega)).trans ((up2_o _ _ (by omega)).trans ((up2_o _ _ (by omega)).trans ((up2_o _ _ (by omega)).trans ((up2_o _ _ (by omega)).trans ((hfr_185 427 b9 (by omega)).trans (hfr_5 427 b9 (by omega))))))))))))))) hx2_231 hx2_232 hx2_233
              refine lv_aload_n hx hb dX12_start_106 rfl (lv_at hl 1 rfl) ?_
              have hp_237 : (im_228 36 81).toInt = ((im_213 36 81) : Int32).toInt := congrArg Int32.toInt (((hfr_229 36 81 (by omega)).trans (hfr_220 36 81 (by omega))))
              refine x_callv (va_runV (As := []) (rest := []) ⟨hx, hb, hml, hown, hts⟩ (m_settle2 l D g ka ad im_228 r L d  hO_230 hR H.size (by first | omega | decide)) (cwV 0 hts gX12_start_X12_settle rfl rfl rfl (by decide +kernel) ⟨(Nat.le_of_ble_eq_true rfl), (Nat.le_of_ble_eq_true rfl)⟩) (x_preV (q := (RX12, TX12, 86)) hH hK (q_obj (by decide) (rfl : kd 36 = 12) (by decide)) rfl gxb (gxw hE hS (x_F hH hS hA))) rfl rfl hl.1 rfl (lv_room (Nat.le_of_ble_eq_true rfl)) dX12_start_107 ⟨(Nat.le_of_ble_eq_true rfl), (Nat.le_of_ble_eq_true rfl)⟩) hH hS hA rfl rfl (fun im_240 H locs hw_239 hH hS => ?_)
              have hH : sj_H D A (hwc g ka im_240 r L d) H := hH
              obtain ⟨hO_242, hfr_241, hx2_243, hx2_244⟩ := hw_239
              have hp_245 : (im_240 36 76).toInt = ((im_240 36 76) : Int32).toInt := rfl
              have hp_246 : (im_240 36 77).toInt = (x : Int32).toInt := congrArg Int32.toInt (((hfr_241 36 77 (by omega)).trans ((hfr_229 36 77 (by omega)).trans ((hfr_220 36 77 (by omega)).trans ((hfr_214 36 77 (by omega)).trans ((hfr_204 36 77 (by omega)).trans ((up2_k _ _ (by decide)).trans ((hfr_j1 36 77 (by omega)).trans ((up2_k _ _ (by decide)).trans ((up2_k _ _ (by decide)).trans ((up2_k _ _ (by decide)).trans ((up2_k _ _ (by decide)).trans (up2_at _ _ _ _)))))))))))))
              have hp_247 : (im_240 36 78).toInt = (0 : Int32).toInt := congrArg Int32.toInt (((hfr_241 36 78 (by omega)).trans ((hfr_229 36 78 (by omega)).trans ((hfr_220 36 78 (by omega)).trans ((hfr_214 36 78 (by omega)).trans ((hfr_204 36 78 (by omega)).trans ((up2_k _ _ (by decide)).trans ((hfr_j1 36 78 (by omega)).trans ((up2_k _ _ (by decide)).trans ((up2_k _ _ (by decide)).trans ((up2_k _ _ (by decide)).trans (up2_at _ _ _ _))))))))))))
              have hl_248 : (0 : Int32).toInt = 0 := rfl
              obtain ⟨hMI7, hre7, hk7, hp7⟩ := MI_set (i := im_228) (d := d) hO_230 rfl (mxE_of (i := im_228) (u := im_240) ⟨(hfr_241 36 17 (by omega)), fun a h1 h2 => funext fun b9 => (hfr_241 a b9 (by omega))⟩ (hfr_241 36 33 (by omega)) (hfr_241 36 67 (by omega)) (hfr_241 36 77 (by omega)) (funext fun b9 => (hfr_241 400 b9 (by omega))) (funext fun b9 => (hfr_241 420 b9 (by omega))) (funext fun b9 => (hfr_241 416 b9 (by omega))) (funext fun b9 => (hfr_241 417 b9 (by omega)))) (hfr_241 36 79 (by omega)) (funext fun b9 => (hfr_241 427 b9 (by omega))) (funext fun b9 => (hfr_241 428 b9 (by omega))) (funext fun b9 => (hfr_241 429 b9 (by omega))) hMUs (by omega) (by omega) hx2_243
              refine lv_iload_n hx hb dX12_start_110 rfl (lv_at hl 0 rfl) ?_
              have hV_249 : MI im_240 d := hMI7
              have hp_250 : (im_240 36 76).toInt = ((im_240 36 76) : Int32).toInt := rfl
              have hV_251 : ((x.toInt < 1 ∨ 3 < x.toInt) ∧ (im_240 36 76).toInt = 0) ∨ ((1 ≤ x.toInt ∧ x.toInt ≤ 3) ∧ mrest im_240 = murem i 0 ∧ ((0 < murem i 0 ∧ (im_240 36 76).toInt = 1) ∨ (murem i 0 ≤ 0 ∧ (im_240 36 76).toInt = 0))) := (Or.inr ⟨⟨by omega, by omega⟩, by omega, by rcases hk7 with ⟨h1, h2⟩ | ⟨h1, h2⟩; exact Or.inl ⟨by omega, h2⟩; exact Or.inr ⟨by omega, h2⟩⟩)
              have hp_252 : (im_240 36 81).toInt = ((im_240 36 81) : Int32).toInt := rfl
              have hV_253 : ((im_240 36 81).toInt ≤ (i 36 81).toInt + 2) := (by omega)
              exact sj_zret hx hb hr hlocks rfl hS im_240 ⟨hO_242, (fun a b ha => ((hfr_241 a b (by omega)).trans ((hfr_229 a b (by omega)).trans ((hfr_220 a b (by omega)).trans ((hfr_214 a b (by omega)).trans ((hfr_204 a b (by omega)).trans ((up2_o _ _ (by omega)).trans ((hfr_j1 a b (by omega)).trans ((up2_o _ _ (by omega)).trans ((up2_o _ _ (by omega)).trans ((up2_o _ _ (by omega)).trans ((up2_o _ _ (by omega)).trans ((up2_o _ _ (by omega)).trans ((hfr_185 a b (by omega)).trans (hfr_5 a b (by omega)))))))))))))))), hV_249, hV_251, hV_253⟩ hH (sj_Knil hK) (Nat.le_of_ble_eq_true rfl) (Nat.le_of_ble_eq_true rfl) dX12_start_111
            · skip
              have h_254 := s_nle (rfl : (i 36 33).toInt = _) (rfl : f.toInt = _) c_198
              refine lv_aload_n hx hb dX12_start_68 rfl (lv_at hl 1 rfl) ?_
              refine h_getr (ci := 12) (C := RX12) (F := TX12) (N := 86) hx hb hts in12 hown hK hH (by decide) (rfl : kd 36 = 12) (by decide) rfl 38 (by decide) wd7 (fun _ h9 => h9) (by decide) rfl (t := 401) (hR 36 38 rfl) (by decide) dX12_start_69 ?_
              refine lv_iload_n hx hb dX12_start_72 rfl (lv_at hl 0 rfl) ?_
              refine lv_iconst (v := (-1)) hx hb dX12_start_73 (by decide) ?_
              have hO_255 := okp hO_j1 (n := 401) (k := (f.toInt).toNat) (v := (-1)) (show (-1 : Int) ≤ ((-1) : Int32).toInt ∧ ((-1) : Int32).toInt ≤ 5 from ⟨by decide, by decide⟩)
              refine h_iast hx hb hK hH hS (by decide) (rfl : kd 401 = 13) (s_vin (N := 24) (rfl : f.toInt = _) (rfl : ln 401 = 24) (by omega) (by omega)) dX12_start_74 (fun H locs hH hS => ?_)
              rw [s_cl (show f.toInt = f.toInt by omega)] at hH
              obtain ⟨z_256, ez_256, hz_256⟩ := s_add (rfl : f.toInt = _) (show (1 : Int32).toInt = 1 from rfl) (by omega) (by omega)
              refine lv_iinc (v := z_256) (lv' := [(2, .int z_256), (0, .ref (g 36)), (1, .int x)]) hx hb dX12_start_75 hl (k := 0) rfl ez_256 (by decide) rfl (fun ls hl => ?_)
              refine lv_goto (tgt := 60) hx hb dX12_start_78 (by decide) ?_
              exact ih_lp_196 z_256 _ _ _ ls (by omega) (by omega) (by omega) hO_255 (fun a b ha => ((up2_o _ _ (by omega)).trans (hfr_j1 a b (by omega)))) (lv_sub hl [0, 1, 2] rfl) hH hS
        have hl_257 : (0 : Int32).toInt = 0 := rfl
        exact lp_196 _ 0 _ _ _ ls (Nat.lt_succ_self _) (by omega) (by omega) hO_195 (fun a b ha => rfl) (lv_sub hl [0, 1, 2] rfl) hH hS
      · skip
        have h_258 := s_ne (rfl : r_182.toInt = _) (show (0 : Int32).toInt = 0 from rfl) c_189
        refine lv_iconst (v := 0) hx hb dX12_start_31 (by decide) ?_
        have hV_259 : MI im_184 d := (MI_off (i := i) hMI hb76 ((hfr_185 36 76 (by omega)).trans (hfr_5 36 76 (by omega))) (funext fun b9 => ((hfr_185 427 b9 (by omega)).trans (hfr_5 427 b9 (by omega)))))
        have hp_260 : (im_184 36 76).toInt = ((i 36 76) : Int32).toInt := congrArg Int32.toInt (((hfr_185 36 76 (by omega)).trans (hfr_5 36 76 (by omega))))
        have hV_261 : ((x.toInt < 1 ∨ 3 < x.toInt) ∧ (im_184 36 76).toInt = 0) ∨ ((1 ≤ x.toInt ∧ x.toInt ≤ 3) ∧ mrest im_184 = murem i 0 ∧ ((0 < murem i 0 ∧ (im_184 36 76).toInt = 1) ∨ (murem i 0 ≤ 0 ∧ (im_184 36 76).toInt = 0))) := (Or.inl ⟨by omega, by omega⟩)
        have hp_262 : (im_184 36 81).toInt = ((i 36 81) : Int32).toInt := congrArg Int32.toInt (((hfr_185 36 81 (by omega)).trans (hfr_5 36 81 (by omega))))
        have hV_263 : ((im_184 36 81).toInt ≤ (i 36 81).toInt + 2) := (by omega)
        exact sj_zret hx hb hr hlocks rfl hS im_184 ⟨hO_186, (fun a b ha => ((hfr_185 a b (by omega)).trans (hfr_5 a b (by omega)))), hV_259, hV_261, hV_263⟩ hH (sj_Knil hK) (Nat.le_of_ble_eq_true rfl) (Nat.le_of_ble_eq_true rfl) dX12_start_32
