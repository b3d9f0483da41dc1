/-! an expression is taken: a function of its characters -/
def okr (u : Nat) (l : List Int) (p : Int) : Prop := ∃ m : Int, prL u l p = some m ∧ m ≤ 6
theorem prL_up : ∀ (u : Nat) (l : List Int) (n m : Int), prL u l n = some m → n ≤ m
  | u, [], n, m, h => by
    have h1 : some n = some m := by rw [← h]; cases u <;> rfl
    cases h1; exact Int.le_refl _
  | 0, _ :: _, n, m, h => by cases h
  | u + 1, c :: t, n, m, h => by
    have h1 : (if c = 123 then (match paL t with
      | none => none
      | some r => prL u r (n + 1))
    else if c = 40 then (match opL t 0 with
      | none => none
      | some r => prL u r n)
    else if c = 32 then prL u t n
    else match wdL (c :: t) 0 with
      | none => none
      | some r => prL u r n) = some m := h
    by_cases q1 : c = 123
    · rw [if_pos q1] at h1
      cases hp : paL t with
      | none => rw [hp] at h1; cases h1
      | some r => rw [hp] at h1; have := prL_up u r (n + 1) m h1; omega
    · rw [if_neg q1] at h1
      by_cases q2 : c = 40
      · rw [if_pos q2] at h1
        cases hp : opL t 0 with
        | none => rw [hp] at h1; cases h1
        | some r => rw [hp] at h1; exact prL_up u r n m h1
      · rw [if_neg q2] at h1
        by_cases q3 : c = 32
        · rw [if_pos q3] at h1; exact prL_up u t n m h1
        · rw [if_neg q3] at h1
          cases hp : wdL (c :: t) 0 with
          | none => rw [hp] at h1; cases h1
          | some r => rw [hp] at h1; exact prL_up u r n m h1
section TKL
variable {f : Nat → Int32} {a b n v p q : Int} {u : Nat}
theorem op_bad (h0 : 0 ≤ a) (h : b ≤ a ∨ (a < b ∧ (f a.toNat).toInt = 41 ∧ n = 0) ∨ (a < b ∧ b ≤ a + 1 ∧ (f a.toNat).toInt = 92)) : opL (lnL f a b) n = none := by
  rcases h with h | ⟨h, h1, h2⟩ | ⟨h, h1, h2⟩
  · exact op_end h
  · exact op_no h0 (Or.inr ⟨h, h1, h2⟩)
  · exact op_escE h0 h h1 h2
theorem op_good (h0 : 0 ≤ a) (h : a < b) (hc : (f a.toNat).toInt = 41) (hn : n ≠ 0) (hv : v = a + 1) : opL (lnL f a b) n = some (lnL f v b) := by
  subst hv; rw [op_close h0 h hc, if_neg hn]
theorem wd_bad (h0 : 0 ≤ a) (h : (b ≤ a ∧ n = 0) ∨ (a < b ∧ ((f a.toNat).toInt = 123 ∨ (f a.toNat).toInt = 125 ∨ (f a.toNat).toInt = 40 ∨ (f a.toNat).toInt = 41 ∨ (f a.toNat).toInt = 32 ∨ (f a.toNat).toInt = 47) ∧ n = 0) ∨ (a < b ∧ b ≤ a + 1 ∧ (f a.toNat).toInt = 92)) : wdL (lnL f a b) n = none := by
  rcases h with ⟨h, h1⟩ | ⟨h, h1, h2⟩ | ⟨h, h1, h2⟩
  · exact wd_no h0 ⟨Or.inl h, h1⟩
  · exact wd_no h0 ⟨Or.inr ⟨h, by unfold spC; omega⟩, h2⟩
  · exact wd_escE h0 h h1 h2
theorem wd_good (h0 : 0 ≤ a) (h : b ≤ a ∨ (a < b ∧ ((f a.toNat).toInt = 123 ∨ (f a.toNat).toInt = 125 ∨ (f a.toNat).toInt = 40 ∨ (f a.toNat).toInt = 41 ∨ (f a.toNat).toInt = 32))) (hn : n ≠ 0) : wdL (lnL f a b) n = some (lnL f a b) := wd_ok h0 (h.imp id (fun q => ⟨q.1, by unfold spC; exact q.2⟩)) hn
theorem wd_step {a2 n2 : Int} (h0 : 0 ≤ a) (h : a < b) (hn0 : 0 ≤ n) (h1 : (f a.toNat).toInt ≠ 123 ∧ (f a.toNat).toInt ≠ 125 ∧ (f a.toNat).toInt ≠ 40 ∧ (f a.toNat).toInt ≠ 41 ∧ (f a.toNat).toInt ≠ 32) (h2 : ((f a.toNat).toInt = 47 ∧ n ≠ 0 ∧ a2 = a + 1 ∧ n2 = 0) ∨ ((f a.toNat).toInt ≠ 47 ∧ (f a.toNat).toInt ≠ 92 ∧ a2 = a + 1 ∧ n2 = n + 1) ∨ ((f a.toNat).toInt = 92 ∧ a + 1 < b ∧ a2 = a + 2 ∧ n2 = n + 1)) : wdL (lnL f a b) n = wdL (lnL f a2 b) n2 := by
  have hs : ¬ spC (f a.toNat).toInt := by unfold spC; omega
  rcases h2 with ⟨g1, g2, g3, g4⟩ | ⟨g1, g2, g3, g4⟩ | ⟨g1, g2, g3, g4⟩
  · subst g3; subst g4; exact wd_sl h0 h g1 g2
  · subst g3; exact wd_st h0 h hs g1 (Or.inl ⟨g2, rfl⟩) g4 hn0
  · subst g3; exact wd_st h0 h hs (by omega) (Or.inr ⟨g1, g2, rfl⟩) g4 hn0
/-- an element at a place: what it says of the rest -/
theorem el_pa (h0 : 0 ≤ a) (h : a < b) (hc : (f a.toNat).toInt = 123) (hq : q ≤ 6) (g : (v = -1 ∧ (paL (lnL f (a + 1) b) = none ∨ p = 6)) ∨ (a < v ∧ paL (lnL f (a + 1) b) = some (lnL f v b) ∧ q = p + 1)) : (v = -1 ∧ ¬ okr (u + 1) (lnL f a b) p) ∨ (a < v ∧ (okr (u + 1) (lnL f a b) p ↔ okr u (lnL f v b) q)) := by
  unfold okr
  rw [pr_pa h0 h hc]
  rcases g with ⟨g1, g2⟩ | ⟨g1, g2, g3⟩
  · refine Or.inl ⟨g1, fun z => ?_⟩
    obtain ⟨m, z1, z2⟩ := z
    cases hp : paL (lnL f (a + 1) b) with
    | none => rw [hp] at z1; cases z1
    | some r =>
      rw [hp] at z1
      have h9 := prL_up _ _ _ _ z1
      rcases g2 with g2 | g2
      · rw [g2] at hp; cases hp
      · omega
  · refine Or.inr ⟨g1, ?_⟩
    rw [g2, g3]
theorem el_op (h0 : 0 ≤ a) (h : a < b) (hc : (f a.toNat).toInt = 40) (g : (v = -1 ∧ opL (lnL f (a + 1) b) 0 = none) ∨ (a < v ∧ opL (lnL f (a + 1) b) 0 = some (lnL f v b) ∧ q = p)) : (v = -1 ∧ ¬ okr (u + 1) (lnL f a b) p) ∨ (a < v ∧ (okr (u + 1) (lnL f a b) p ↔ okr u (lnL f v b) q)) := by
  unfold okr
  rw [pr_op h0 h hc]
  rcases g with ⟨g1, g2⟩ | ⟨g1, g2, g3⟩
  · refine Or.inl ⟨g1, fun z => ?_⟩
    obtain ⟨m, z1, _⟩ := z
    rw [g2] at z1; cases z1
  · refine Or.inr ⟨g1, ?_⟩
    rw [g2, g3]
theorem el_bl (h0 : 0 ≤ a) (h : a < b) (hc : (f a.toNat).toInt = 32) (hv : v = a + 1) (hq : q = p) : (v = -1 ∧ ¬ okr (u + 1) (lnL f a b) p) ∨ (a < v ∧ (okr (u + 1) (lnL f a b) p ↔ okr u (lnL f v b) q)) := by
  unfold okr
  rw [pr_bl h0 h hc, hv, hq]
  exact Or.inr ⟨by omega, Iff.rfl⟩
theorem el_wd (h0 : 0 ≤ a) (h : a < b) (h1 : (f a.toNat).toInt ≠ 123) (h2 : (f a.toNat).toInt ≠ 40) (h3 : (f a.toNat).toInt ≠ 32) (g : (v = -1 ∧ wdL (lnL f a b) 0 = none) ∨ (a < v ∧ wdL (lnL f a b) 0 = some (lnL f v b) ∧ q = p)) : (v = -1 ∧ ¬ okr (u + 1) (lnL f a b) p) ∨ (a < v ∧ (okr (u + 1) (lnL f a b) p ↔ okr u (lnL f v b) q)) := by
  unfold okr
  rw [pr_wd h0 h h1 h2 h3]
  rcases g with ⟨g1, g2⟩ | ⟨g1, g2, g3⟩
  · refine Or.inl ⟨g1, fun z => ?_⟩
    obtain ⟨m, z1, _⟩ := z
    rw [g2] at z1; cases z1
  · refine Or.inr ⟨g1, ?_⟩
    rw [g2, g3]
/-- the loop over elements -/
def tkI (f : Nat → Int32) (b a : Int) (k : Nat) (p : Int) : Prop := (a = -1 ∧ ¬ okr 60 (lnL f 0 b) 0) ∨ (0 ≤ a ∧ (okr 60 (lnL f 0 b) 0 ↔ okr k (lnL f a b) p))
theorem tkI_0 {k : Nat} (ha : a = 0) (hk : k = 60) (hp : p = 0) : tkI f b a k p := by subst ha; subst hk; subst hp; exact Or.inr ⟨Int.le_refl _, Iff.rfl⟩
theorem tkI_s {k k2 : Nat} (h : tkI f b a k p) (h0 : 0 ≤ a) (hk : k = k2 + 1) (g : ∀ u : Nat, (v = -1 ∧ ¬ okr (u + 1) (lnL f a b) p) ∨ (a < v ∧ (okr (u + 1) (lnL f a b) p ↔ okr u (lnL f v b) q))) : tkI f b v k2 q := by
  subst hk
  rcases h with ⟨h, _⟩ | ⟨_, h⟩
  · omega
  · rcases g k2 with ⟨g1, g2⟩ | ⟨g1, g2⟩
    · exact Or.inl ⟨g1, fun z => g2 (h.mp z)⟩
    · exact Or.inr ⟨by omega, h.trans g2⟩
theorem tkI_end {k : Nat} (h : tkI f b a k p) (hp : p ≤ 6) (hb : 1 ≤ b) (hb2 : b ≤ 60) (hx : a < 0 ∨ b ≤ a ∨ k = 0) (hab : a ≤ b) (hv : (v = 1 ∧ a = b) ∨ (v = 0 ∧ a ≠ b)) : (v = 1 ∧ prOK (lnL f 0 b)) ∨ (v = 0 ∧ ¬ prOK (lnL f 0 b)) := by
  have hl : ((lnL f 0 b).length : Int) = b := by have := lnL_len (f := f) (show 0 ≤ b by omega); omega
  have key : prOK (lnL f 0 b) ↔ okr 60 (lnL f 0 b) 0 := ⟨fun z => z.2.2, fun z => ⟨by omega, by omega, z⟩⟩
  rw [key]
  rcases h with ⟨h1, h2⟩ | ⟨h1, h2⟩
  · exact Or.inr ⟨by omega, h2⟩
  · rw [h2]
    rcases hv with ⟨v1, e⟩ | ⟨v0, e⟩
    · refine Or.inl ⟨v1, ?_⟩
      rw [e, lnL_0 (Int.le_refl _)]
      exact ⟨p, by cases k <;> rfl, hp⟩
    · refine Or.inr ⟨v0, ?_⟩
      have hk : k = 0 := by omega
      subst hk
      rw [lnL_s h1 (by omega)]
      rintro ⟨m, z, _⟩
      cases z
end TKL
theorem prOK_no {f : Nat → Int32} {b : Int} (h0 : 0 ≤ b) (h : b < 1 ∨ 60 < b) : ¬ prOK (lnL f 0 b) := by
  intro z
  have hl : ((lnL f 0 b).length : Int) = b := by have := lnL_len (f := f) (show 0 ≤ b by omega); omega
  have z1 := z.1
  have z2 := z.2.1
  omega
/-! what a thrown class says; counts -/
def eX (E : String) (a b c d : Prop) : Prop := (E = "java/lang/IllegalStateException" → a) ∧ (E = "java/lang/IllegalArgumentException" → b) ∧ (E = "java/lang/UnsupportedOperationException" → c) ∧ (E = "java/lang/IndexOutOfBoundsException" → d)
section EXS
variable {a b c d : Prop}
theorem eX_ise (h : a) : eX "java/lang/IllegalStateException" a b c d := ⟨fun _ => h, fun q => absurd q (by decide +kernel), fun q => absurd q (by decide +kernel), fun q => absurd q (by decide +kernel)⟩
theorem eX_iae (h : b) : eX "java/lang/IllegalArgumentException" a b c d := ⟨fun q => absurd q (by decide +kernel), fun _ => h, fun q => absurd q (by decide +kernel), fun q => absurd q (by decide +kernel)⟩
theorem eX_uoe (h : c) : eX "java/lang/UnsupportedOperationException" a b c d := ⟨fun q => absurd q (by decide +kernel), fun q => absurd q (by decide +kernel), fun _ => h, fun q => absurd q (by decide +kernel)⟩
theorem eX_iob (h : d) : eX "java/lang/IndexOutOfBoundsException" a b c d := ⟨fun q => absurd q (by decide +kernel), fun q => absurd q (by decide +kernel), fun q => absurd q (by decide +kernel), fun _ => h⟩
theorem eX_ise' (h : eX "java/lang/IllegalStateException" a b c d) : a := h.1 rfl
theorem eX_iae' (h : eX "java/lang/IllegalArgumentException" a b c d) : b := h.2.1 rfl
theorem eX_uoe' (h : eX "java/lang/UnsupportedOperationException" a b c d) : c := h.2.2.1 rfl
theorem eX_iob' (h : eX "java/lang/IndexOutOfBoundsException" a b c d) : d := h.2.2.2 rfl
end EXS
theorem cnl_k0 {P : Nat → Bool} {n : Nat} {t : Int} (h : t = 0) (hn : n = 0) : t = (cnl P n : Int) := by subst hn; exact h
theorem cnl_k {P : Nat → Bool} {n m : Nat} {t t2 v : Int} (h : t = (cnl P n : Int)) (hv : v = (if P n = true then 1 else 0)) (e : t2 = t + v) (hm : m = n + 1) : t2 = (cnl P m : Int) := by
  subst hm
  cases q : P n with
  | true => rw [q] at hv; rw [cnl_yes q]; simp at hv; omega
  | false => rw [q] at hv; rw [cnl_no q]; simp at hv; omega
/-- a command that is put behind a script's others -/
def cmA (K C B : Nat) (i u : Nat → Nat → Int32) (x y z : Int) : Prop := (u K x.toNat).toInt = (i K x.toNat).toInt + 1 ∧ (u C (4 * x + (i K x.toNat).toInt).toNat).toInt = y ∧ (u B (4 * x + (i K x.toNat).toInt).toNat).toInt = z ∧ (∀ k : Nat, k ≠ x.toNat → u K k = i K k) ∧ (∀ k : Nat, k ≠ (4 * x + (i K x.toNat).toInt).toNat → u C k = i C k ∧ u B k = i B k)
def cmO (K : Nat) (i : Nat → Nat → Int32) (x y : Int) : Prop := (0 ≤ x ∧ x ≤ 7) ∧ (0 ≤ y ∧ y ≤ 8) ∧ (i K x.toNat).toInt < 4

set_option maxHeartbeats 2000000 in
set_option maxRecDepth 100000 in
theorem kv_endsWord (l : Launch) (D : va_G) (g : Nat → Nat) (ka : Nat → ClassId) (ad : Nat → Nat) (i : Nat → Nat → Int32) (r : Nat → Nat → Nat) (L : Nat → Nat → Int64) (d : Nat → Nat → UInt64) (j : Nat) (x : Int32) (hO : OkI i) (hR : RS r) (sz : Nat) (hj : j < 13) : Met l yX2_endsWord wsX2_endsWord ({ frames := 0, cells := 0, slots := 0, locals := 0 }) (va_Pc [.ref (g (240 + 9 * j)), .int x] (sj_B D (hwc g ka i r L d) (hT ka) sz (gx ad (va_A (hwc g ka i r L d) sz)))) (sj_Qi (S := Unit) D (fun v u => ((0 : Int) ≤ v.toInt ∧ v.toInt ≤ 1) ∧ ((v.toInt = 1 ∧ (x.toInt = 123 ∨ x.toInt = 125 ∨ x.toInt = 40 ∨ x.toInt = 41 ∨ x.toInt = 32)) ∨ (v.toInt = 0 ∧ x.toInt ≠ 123 ∧ x.toInt ≠ 125 ∧ x.toInt ≠ 40 ∧ x.toInt ≠ 41 ∧ x.toInt ≠ 32))) (fun _ => hwc g ka i r L d) (fun _ => []) (va_A (hwc g ka i r L d) sz)) 0 0 (va_A (hwc g ka i r L d) sz) := by
  refine x_met (Ex := gx ad) (cc := cX2_endsWord) (maxL := 2) (ret := (some .boolean)) (by decide) rfl (Nat.le_of_ble_eq_true rfl) ?_
  intro p e s m below meth c A ls hx hb hr hml hts hown hlocks hA hS hH hK hE hl
  have hown : s.vm.findClass RX2 = some m.cls := hown
  have hl : lv_has ls 2 [(0, .ref (g (240 + 9 * j))), (1, .int x)] := hl
  have hK : va_K D vwCl (hT ka) s := hK
  have hg_1 := s_rng x
  refine lv_iload_n hx hb dX2_endsWord_0 rfl (lv_at hl 1 rfl) ?_
  refine lv_bipush (v := 123) hx hb dX2_endsWord_1 (by decide) ?_
  refine lv_icmp_eq (tgt := 30) hx hb dX2_endsWord_3 (by decide) (fun c_2 => ?_) (fun c_2 => ?_)
  · skip
    have h_3 := s_eq (rfl : x.toInt = _) (show (123 : Int32).toInt = 123 from rfl) c_2
    refine lv_iconst (v := 1) hx hb dX2_endsWord_30 (by decide) ?_
    refine lv_goto (tgt := 35) hx hb dX2_endsWord_31 (by decide) ?_
    have hlv_4 : (1 : Int32).toInt = 1 := rfl
    exact sj_zret hx hb hr hlocks (by decide +kernel) hS () ⟨⟨by decide, by decide⟩, (by omega)⟩ hH (sj_Knil hK) (Nat.le_of_ble_eq_true rfl) (Nat.le_of_ble_eq_true rfl) dX2_endsWord_35
  · skip
    have h_5 := s_ne (rfl : x.toInt = _) (show (123 : Int32).toInt = 123 from rfl) c_2
    refine lv_iload_n hx hb dX2_endsWord_6 rfl (lv_at hl 1 rfl) ?_
    refine lv_bipush (v := 125) hx hb dX2_endsWord_7 (by decide) ?_
    refine lv_icmp_eq (tgt := 30) hx hb dX2_endsWord_9 (by decide) (fun c_6 => ?_) (fun c_6 => ?_)
    · skip
      have h_7 := s_eq (rfl : x.toInt = _) (show (125 : Int32).toInt = 125 from rfl) c_6
      refine lv_iconst (v := 1) hx hb dX2_endsWord_30 (by decide) ?_
      refine lv_goto (tgt := 35) hx hb dX2_endsWord_31 (by decide) ?_
      have hlv_8 : (1 : Int32).toInt = 1 := rfl
      exact sj_zret hx hb hr hlocks (by decide +kernel) hS () ⟨⟨by decide, by decide⟩, (by omega)⟩ hH (sj_Knil hK) (Nat.le_of_ble_eq_true rfl) (Nat.le_of_ble_eq_true rfl) dX2_endsWord_35
    · skip
      have h_9 := s_ne (rfl : x.toInt = _) (show (125 : Int32).toInt = 125 from rfl) c_6
      refine lv_iload_n hx hb dX2_endsWord_12 rfl (lv_at hl 1 rfl) ?_
      refine lv_bipush (v := 40) hx hb dX2_endsWord_13 (by decide) ?_
      refine lv_icmp_eq (tgt := 30) hx hb dX2_endsWord_15 (by decide) (fun c_10 => ?_) (fun c_10 => ?_)
      · skip
        have h_11 := s_eq (rfl : x.toInt = _) (show (40 : Int32).toInt = 40 from rfl) c_10
        refine lv_iconst (v := 1) hx hb dX2_endsWord_30 (by decide) ?_
        refine lv_goto (tgt := 35) hx hb dX2_endsWord_31 (by decide) ?_
        have hlv_12 : (1 : Int32).toInt = 1 := rfl
        exact sj_zret hx hb hr hlocks (by decide +kernel) hS () ⟨⟨by decide, by decide⟩, (by omega)⟩ hH (sj_Knil hK) (Nat.le_of_ble_eq_true rfl) (Nat.le_of_ble_eq_true rfl) dX2_endsWord_35
      · skip
        have h_13 := s_ne (rfl : x.toInt = _) (show (40 : Int32).toInt = 40 from rfl) c_10
        refine lv_iload_n hx hb dX2_endsWord_18 rfl (lv_at hl 1 rfl) ?_
        refine lv_bipush (v := 41) hx hb dX2_endsWord_19 (by decide) ?_
        refine lv_icmp_eq (tgt := 30) hx hb dX2_endsWord_21 (by decide) (fun c_14 => ?_) (fun c_14 => ?_)
        · skip
          have h_15 := s_eq (rfl : x.toInt = _) (show (41 : Int32).toInt = 41 from rfl) c_14
          refine lv_iconst (v := 1) hx hb dX2_endsWord_30 (by decide) ?_
          refine lv_goto (tgt := 35) hx hb dX2_endsWord_31 (by decide) ?_
          have hlv_16 : (1 : Int32).toInt = 1 := rfl
          exact sj_zret hx hb hr hlocks (by decide +kernel) hS () ⟨⟨by decide, by decide⟩, (by omega)⟩ hH (sj_Knil hK) (Nat.le_of_ble_eq_true rfl) (Nat.le_of_ble_eq_true rfl) dX2_endsWord_35
        · skip
          have h_17 := s_ne (rfl : x.toInt = _) (show (41 : Int32).toInt = 41 from rfl) c_14
          refine lv_iload_n hx hb dX2_endsWord_24 rfl (lv_at hl 1 rfl) ?_
          refine lv_bipush (v := 32) hx hb dX2_endsWord_25 (by decide) ?_
          refine lv_icmp_ne (tgt := 34) hx hb dX2_endsWord_27 (by decide) (fun c_18 => ?_) (fun c_18 => ?_)
          · skip
            have h_19 := s_ne (rfl : x.toInt = _) (show (32 : Int32).toInt = 32 from rfl) c_18
            refine lv_iconst (v := 0) hx hb dX2_endsWord_34 (by decide) ?_
            have hlv_20 : (0 : Int32).toInt = 0 := rfl
            exact sj_zret hx hb hr hlocks (by decide +kernel) hS () ⟨⟨by decide, by decide⟩, (by omega)⟩ hH (sj_Knil hK) (Nat.le_of_ble_eq_true rfl) (Nat.le_of_ble_eq_true rfl) dX2_endsWord_35
          · skip
            have h_21 := s_eq (rfl : x.toInt = _) (show (32 : Int32).toInt = 32 from rfl) c_18
            refine lv_iconst (v := 1) hx hb dX2_endsWord_30 (by decide) ?_
            refine lv_goto (tgt := 35) hx hb dX2_endsWord_31 (by decide) ?_
            have hlv_22 : (1 : Int32).toInt = 1 := rfl
            exact sj_zret hx hb hr hlocks (by decide +kernel) hS () ⟨⟨by decide, by decide⟩, (by omega)⟩ hH (sj_Knil hK) (Nat.le_of_ble_eq_true rfl) (Nat.le_of_ble_eq_true rfl) dX2_endsWord_35
set_option maxHeartbeats 2000000 in
set_option maxRecDepth 100000 in
theorem kv_takeOptional (l : Launch) (D : va_G) (g : Nat → Nat) (ka : Nat → ClassId) (ad : Nat → Nat) (i : Nat → Nat → Int32) (r : Nat → Nat → Nat) (L : Nat → Nat → Int64) (d : Nat → Nat → UInt64) (j : Nat) (x : Int32) (hO : OkI i) (hR : RS r) (sz : Nat) (hj : j < 13) (hl0 : (i 1 1).toInt ≤ 60) (hx0 : 0 ≤ x.toInt) (hx1 : x.toInt < (i 1 1).toInt) (hTx : exT i j x.toInt) : Met l yX2_takeOptional wsX2_takeOptional ({ frames := 1, cells := 0, slots := 0, locals := 21 }) (va_Pc [.ref (g (240 + 9 * j)), .ref (g 1), .int x] (sj_B D (hwc g ka i r L d) (hT ka) sz (gx ad (va_A (hwc g ka i r L d) sz)))) (sj_Qi (S := (Nat → Nat → Int32)) D (fun v u => OkI u ∧ (∀ a, ¬ (a = 240 + 9 * j ∨ a = 240 + 9 * j + 1 ∨ a = 240 + 9 * j + 2 ∨ a = 240 + 9 * j + 3 ∨ a = 240 + 9 * j + 4) → u a = i a) ∧ ((u (240 + 9 * j + 2) 0).toInt = 0 ∧ (v.toInt = -1 ∨ (x.toInt < v.toInt ∧ v.toInt ≤ (i 1 1).toInt ∧ exT u j v.toInt))) ∧ ((v.toInt = -1 ∧ opL (lnL (i 2) (x.toInt + 1) (i 1 1).toInt) 0 = none) ∨ (x.toInt < v.toInt ∧ opL (lnL (i 2) (x.toInt + 1) (i 1 1).toInt) 0 = some (lnL (i 2) v.toInt (i 1 1).toInt) ∧ (u (240 + 9 * j) 6).toInt = (i (240 + 9 * j) 6).toInt))) (fun u => hwc g ka u r L d) (fun _ => []) (va_A (hwc g ka i r L d) sz)) 0 0 (va_A (hwc g ka i r L d) sz) := by
  refine x_met (Ex := gx ad) (cc := cX2_takeOptional) (maxL := 4) (ret := (some .int)) (by decide) rfl (Nat.le_of_ble_eq_true rfl) ?_
  intro p e s m below meth c A ls hx hb hr hml hts hown hlocks hA hS hH hK hE hl
  have hown : s.vm.findClass RX2 = some m.cls := hown
  have in2 : ∀ w ∈ wsX20, w ∈ wsX2_takeOptional := (fun _ h => (List.mem_cons_of_mem _ (List.mem_append_right _ h)))
  have in3 : ∀ w ∈ wsX30, w ∈ wsX2_takeOptional := (fun _ h => (List.mem_cons_of_mem _ (List.mem_append_left _ (List.mem_append_right _ h))))
  have wd0 := hts (.fieldLink RX2 48 "StoryDesk$Letters" "length" "I") (List.mem_cons_of_mem _ (List.mem_append_left _ (List.mem_append_left _ (List.mem_append_left _ lm0))))
  have wd1 := hts (.fieldLink RX2 42 "StoryDesk$Expression" "choices" "I") (List.mem_cons_of_mem _ (List.mem_append_left _ (List.mem_append_left _ (List.mem_append_left _ lm2))))
  have wd2 := hts (.fieldLink RX2 57 "StoryDesk$Letters" "chars" "[C") (List.mem_cons_of_mem _ (List.mem_append_left _ (List.mem_append_left _ (List.mem_append_left _ lm1))))
  have hl : lv_has ls 4 [(0, .ref (g (240 + 9 * j))), (1, .ref (g 1)), (2, .int x)] := hl
  have hK : va_K D vwCl (hT ka) s := hK
  obtain ⟨hT1, hT2, hT3, hT4, hT5, hT6, hT7⟩ := hTx
  refine lv_iload_n hx hb dX2_takeOptional_0 rfl (lv_at hl 2 rfl) ?_
  refine lv_iconst (v := 1) hx hb dX2_takeOptional_1 (by decide) ?_
  refine lv_iadd hx hb dX2_takeOptional_2 ?_
  obtain ⟨z_1, ez_1, hz_1⟩ := s_add (rfl : x.toInt = _) (show (1 : Int32).toInt = 1 from rfl) (by omega) (by omega)
  refine sj_i ez_1 ?_
  refine lv_istore_n (lv' := [(3, .int z_1), (0, .ref (g (240 + 9 * j))), (1, .ref (g 1)), (2, .int x)]) hx hb dX2_takeOptional_3 rfl hl (by decide) rfl (fun ls hl => ?_)
  -- loop at 4
  have lp_2 : ∀ (fuel_lp_2 : Nat) (f : Int32) (j1 : Nat → Nat → Int32) (H : Heap) (locs : List Loc) (ls : Array Slot), (60 - f.toInt).toNat < fuel_lp_2 → (0 : Int) ≤ f.toInt ∧ f.toInt ≤ 60 → opL (lnL (i 2) (x.toInt + 1) (i 1 1).toInt) 0 = opL (lnL (i 2) f.toInt (i 1 1).toInt) (kC j1 j - kB j1 j) → x.toInt < f.toInt → kC j1 j ≤ f.toInt → (j1 (240 + 9 * j) 2).toInt = (i (240 + 9 * j) 2).toInt → (j1 (240 + 9 * j) 5).toInt = (i (240 + 9 * j) 5).toInt → (j1 (240 + 9 * j) 6).toInt = (i (240 + 9 * j) 6).toInt → cn j1 j = cn i j → (j1 (240 + 9 * j + 2) 0).toInt = 0 → kB j1 j = kB i j → kB j1 j ≤ kC j1 j → mono j1 j → OkI j1 → (∀ a, ¬ (a = 240 + 9 * j + 1 ∨ a = 240 + 9 * j + 2) → j1 a = i a) → lv_has ls 4 [(3, .int f), (0, .ref (g (240 + 9 * j))), (1, .ref (g 1)), (2, .int x)] → sj_H D A (hwc g ka j1 r L d) H → va_S A s.heap H locs → W p l e (headSpec wsX2_takeOptional ({ frames := 1, cells := 0, slots := 0, locals := 21 })).room s m ([.ref (g (240 + 9 * j)), .ref (g 1), .int x] : List Value).toArray below meth c H locs 0 0 (MQ below (sj_Qi (S := (Nat → Nat → Int32)) D (fun v u => OkI u ∧ (∀ a, ¬ (a = 240 + 9 * j ∨ a = 240 + 9 * j + 1 ∨ a = 240 + 9 * j + 2 ∨ a = 240 + 9 * j + 3 ∨ a = 240 + 9 * j + 4) → u a = i a) ∧ ((u (240 + 9 * j + 2) 0).toInt = 0 ∧ (v.toInt = -1 ∨ (x.toInt < v.toInt ∧ v.toInt ≤ (i 1 1).toInt ∧ exT u j v.toInt))) ∧ ((v.toInt = -1 ∧ opL (lnL (i 2) (x.toInt + 1) (i 1 1).toInt) 0 = none) ∨ (x.toInt < v.toInt ∧ opL (lnL (i 2) (x.toInt + 1) (i 1 1).toInt) 0 = some (lnL (i 2) v.toInt (i 1 1).toInt) ∧ (u (240 + 9 * j) 6).toInt = (i (240 + 9 * j) 6).toInt))) (fun u => hwc g ka u r L d) (fun _ => []) A) ([.ref (g (240 + 9 * j)), .ref (g 1), .int x] : List Value).toArray s 0 0 A) (F0 m 4 ls []) := by
    intro fuel_lp_2
    induction fuel_lp_2 with
    | zero => intros; omega
    | succ fuel_lp_2 ih_lp_2 =>
      intro f j1 H locs ls hm hr_f hi_lp_2_0 hi_lp_2_1 hi_lp_2_2 hi_lp_2_3 hi_lp_2_4 hi_lp_2_5 hi_lp_2_6 hi_lp_2_7 hi_lp_2_8 hi_lp_2_9 hi_lp_2_10 hO_j1 hfr_j1 hl hH hS
      refine lv_iload_n hx hb dX2_takeOptional_4 rfl (lv_at hl 0 rfl) ?_
      refine lv_aload_n hx hb dX2_takeOptional_5 rfl (lv_at hl 2 rfl) ?_
      have bx_3 : (0 : Int) ≤ (i 1 1).toInt ∧ (i 1 1).toInt ≤ 480 := hO 1 1
      refine h_geti (ci := 3) (C := RX3) (F := TX3) (N := 2) hx hb hts in3 hown hK hH (by decide) (rfl : kd 1 = 3) (by decide) rfl 1 (by decide) wd0 (fun _ h9 => h9) (by decide) rfl dX2_takeOptional_6 ?_
      refine sj_i (y := (i 1 1)) (congrFun (hfr_j1 1 (by omega)) _) ?_
      refine lv_icmp_ge (tgt := 61) hx hb dX2_takeOptional_9 (by decide) (fun c_4 => ?_) (fun c_4 => ?_)
      · skip
        have h_5 := s_le (rfl : (i 1 1).toInt = _) (rfl : f.toInt = _) c_4
        refine lv_iload_n hx hb dX2_takeOptional_61 rfl (lv_at hl 0 rfl) ?_
        refine lv_aload_n hx hb dX2_takeOptional_62 rfl (lv_at hl 2 rfl) ?_
        refine h_geti (ci := 3) (C := RX3) (F := TX3) (N := 2) hx hb hts in3 hown hK hH (by decide) (rfl : kd 1 = 3) (by decide) rfl 1 (by decide) wd0 (fun _ h9 => h9) (by decide) rfl dX2_takeOptional_63 ?_
        refine sj_i (y := (i 1 1)) (congrFun (hfr_j1 1 (by omega)) _) ?_
        refine lv_icmp_ge (tgt := 80) hx hb dX2_takeOptional_66 (by decide) (fun c_6 => ?_) (fun c_6 => ?_)
        · skip
          have h_7 := s_le (rfl : (i 1 1).toInt = _) (rfl : f.toInt = _) c_6
          refine lv_iconst (v := (-1)) hx hb dX2_takeOptional_80 (by decide) ?_
          have hlv_8 : ((-1) : Int32).toInt = -1 := rfl
          have hq6_9 : (j1 (240 + 9 * j) 6).toInt = ((i (240 + 9 * j) 6) : Int32).toInt := congrArg Int32.toInt ((congrFun (hfr_j1 (240 + 9 * j) (by omega)) _))
          have hV_10 : (((-1) : Int32).toInt = -1 ∧ opL (lnL (i 2) (x.toInt + 1) (i 1 1).toInt) 0 = none) ∨ (x.toInt < ((-1) : Int32).toInt ∧ opL (lnL (i 2) (x.toInt + 1) (i 1 1).toInt) 0 = some (lnL (i 2) ((-1) : Int32).toInt (i 1 1).toInt) ∧ (j1 (240 + 9 * j) 6).toInt = (i (240 + 9 * j) 6).toInt) := (Or.inl ⟨by omega, hi_lp_2_0.trans (op_bad (by omega) (by omega))⟩)
          exact sj_zret hx hb hr hlocks rfl hS j1 ⟨hO_j1, (fun a ha => (hfr_j1 a (by omega))), ⟨by omega, Or.inl (by omega)⟩, hV_10⟩ hH (sj_Knil hK) (Nat.le_of_ble_eq_true rfl) (Nat.le_of_ble_eq_true rfl) dX2_takeOptional_81
        · skip
          have h_11 := s_nle (rfl : (i 1 1).toInt = _) (rfl : f.toInt = _) c_6
          refine lv_aload_n hx hb dX2_takeOptional_69 rfl (lv_at hl 1 rfl) ?_
          refine lv_aload_n hx hb dX2_takeOptional_70 rfl (lv_at hl 1 rfl) ?_
          have bx_12 : (0 : Int) ≤ (i (240 + 9 * j) 2).toInt ∧ (i (240 + 9 * j) 2).toInt ≤ 61 := by have h9 := hO (240 + 9 * j) 2; rw [bx_expr0 hj 2] at h9; exact h9
          refine h_geti (ci := 2) (C := RX2) (F := TX2) (N := 11) hx hb hts in2 hown hK hH (lt_nK (by omega)) (kd_expr (t := 0) hj (by decide)) (by decide) rfl 2 (by decide) wd1 (fun _ h9 => h9) (by decide) rfl dX2_takeOptional_71 ?_
          refine sj_i (y := (i (240 + 9 * j) 2)) (congrFun (hfr_j1 (240 + 9 * j) (by omega)) _) ?_
          refine x_calli (va_runV (As := [.int (i (240 + 9 * j) 2)]) (rest := []) ⟨hx, hb, hml, hown, hts⟩ (k_choiceLength l D g ka ad j1 r L d j (i (240 + 9 * j) 2) hO_j1 hR H.size (by first | omega | decide) (by first | omega | decide) (by first | omega | decide)) (cwV 1 hts gX2_takeOptional_X2_choiceLength rfl rfl rfl (by decide +kernel) ⟨(Nat.le_of_ble_eq_true rfl), (Nat.le_of_ble_eq_true rfl)⟩) (x_preV (q := (RX2, TX2, 11)) hH hK (q_obj (lt_nK (by omega)) (kd_expr (t := 0) hj (by decide)) (by decide)) rfl gxb (gxw hE hS (x_F hH hS hA))) rfl rfl hl.1 rfl (lv_room (Nat.le_of_ble_eq_true rfl)) dX2_takeOptional_74 ⟨(Nat.le_of_ble_eq_true rfl), (Nat.le_of_ble_eq_true rfl)⟩) hH hS hA rfl rfl (fun r_13 _ H locs hw_14 hH hS => ?_)
          obtain ⟨hr_16, he_17⟩ := hw_14
          have hr_16 : (-60 : Int) ≤ r_13.toInt ∧ r_13.toInt ≤ 60 := hr_16
          have hr_13C : kC j1 j = (j1 (240 + 9 * j + 2) ((j1 (240 + 9 * j) 2).toInt + 1).toNat).toInt := rfl
          have hr_13B : kB j1 j = (j1 (240 + 9 * j + 2) ((j1 (240 + 9 * j) 2).toInt).toNat).toInt := rfl
          rw [show (j1 (240 + 9 * j) 2).toInt = (i (240 + 9 * j) 2).toInt by omega] at hr_13C hr_13B
          refine lv_if_ne (tgt := 82) hx hb dX2_takeOptional_77 (by decide) (fun c_18 => ?_) (fun c_18 => ?_)
          · skip
            have h_19 := s_ne (rfl : r_13.toInt = _) (show (0 : Int32).toInt = 0 from rfl) c_18
            refine lv_aload_n hx hb dX2_takeOptional_82 rfl (lv_at hl 1 rfl) ?_
            refine x_callv (va_runV (As := []) (rest := []) ⟨hx, hb, hml, hown, hts⟩ (k_endChoice l D g ka ad j1 r L d j hO_j1 hR H.size (by first | omega | decide) (by first | omega | decide)) (cwV 0 hts gX2_takeOptional_X2_endChoice rfl rfl rfl (by decide +kernel) ⟨(Nat.le_of_ble_eq_true rfl), (Nat.le_of_ble_eq_true rfl)⟩) (x_preV (q := (RX2, TX2, 11)) hH hK (q_obj (lt_nK (by omega)) (kd_expr (t := 0) hj (by decide)) (by decide)) rfl gxb (gxw hE hS (x_F hH hS hA))) rfl rfl hl.1 rfl (lv_room (Nat.le_of_ble_eq_true rfl)) dX2_takeOptional_83 ⟨(Nat.le_of_ble_eq_true rfl), (Nat.le_of_ble_eq_true rfl)⟩) hH hS hA rfl rfl (fun im_22 H locs hw_21 hH hS => ?_)
            have hH : sj_H D A (hwc g ka im_22 r L d) H := hH
            obtain ⟨hO_24, hfr_23, he_25, hx2_26⟩ := hw_21
            have hm_27 := hx2_26 hi_lp_2_10 (by omega)
            refine lv_aload_n hx hb dX2_takeOptional_86 rfl (lv_at hl 1 rfl) ?_
            refine x_callv (va_runV (As := []) (rest := []) ⟨hx, hb, hml, hown, hts⟩ (k_endChoice l D g ka ad im_22 r L d j hO_24 hR H.size (by first | omega | decide) (by first | omega | decide)) (cwV 0 hts gX2_takeOptional_X2_endChoice rfl rfl rfl (by decide +kernel) ⟨(Nat.le_of_ble_eq_true rfl), (Nat.le_of_ble_eq_true rfl)⟩) (x_preV (q := (RX2, TX2, 11)) hH hK (q_obj (lt_nK (by omega)) (kd_expr (t := 0) hj (by decide)) (by decide)) rfl gxb (gxw hE hS (x_F hH hS hA))) rfl rfl hl.1 rfl (lv_room (Nat.le_of_ble_eq_true rfl)) dX2_takeOptional_87 ⟨(Nat.le_of_ble_eq_true rfl), (Nat.le_of_ble_eq_true rfl)⟩) hH hS hA rfl rfl (fun im_30 H locs hw_29 hH hS => ?_)
            have hH : sj_H D A (hwc g ka im_30 r L d) H := hH
            obtain ⟨hO_32, hfr_31, he_33, hx2_34⟩ := hw_29
            have hm_35 := hx2_34 hm_27 (by omega)
            refine lv_aload_n hx hb dX2_takeOptional_90 rfl (lv_at hl 1 rfl) ?_
            refine lv_bipush (v := 47) hx hb dX2_takeOptional_91 (by decide) ?_
            have hl_36 : (47 : Int32).toInt = 47 := rfl
            refine x_callv (va_runV (As := [.int 47]) (rest := []) ⟨hx, hb, hml, hown, hts⟩ (k_endElement l D g ka ad im_30 r L d j 47 hO_32 hR H.size (by first | omega | decide) (by first | omega | decide) (by first | omega | decide) (by first | omega | decide)) (cwV 1 hts gX2_takeOptional_X2_endElement rfl rfl rfl (by decide +kernel) ⟨(Nat.le_of_ble_eq_true rfl), (Nat.le_of_ble_eq_true rfl)⟩) (x_preV (q := (RX2, TX2, 11)) hH hK (q_obj (lt_nK (by omega)) (kd_expr (t := 0) hj (by decide)) (by decide)) rfl gxb (gxw hE hS (x_F hH hS hA))) rfl rfl hl.1 rfl (lv_room (Nat.le_of_ble_eq_true rfl)) dX2_takeOptional_93 ⟨(Nat.le_of_ble_eq_true rfl), (Nat.le_of_ble_eq_true rfl)⟩) hH hS hA rfl rfl (fun im_39 H locs hw_38 hH hS => ?_)
            have hH : sj_H D A (hwc g ka im_39 r L d) H := hH
            obtain ⟨hO_41, hfr_40, he_42, hx2_43⟩ := hw_38
            have hm_44 := hx2_43 hm_35
            refine lv_iload_n hx hb dX2_takeOptional_96 rfl (lv_at hl 0 rfl) ?_
            refine lv_iconst (v := 1) hx hb dX2_takeOptional_97 (by decide) ?_
            refine lv_iadd hx hb dX2_takeOptional_98 ?_
            obtain ⟨z_45, ez_45, hz_45⟩ := s_add (rfl : f.toInt = _) (show (1 : Int32).toInt = 1 from rfl) (by omega) (by omega)
            refine sj_i ez_45 ?_
            have hq6_46 : (im_39 (240 + 9 * j) 6).toInt = ((im_39 (240 + 9 * j) 6) : Int32).toInt := congrArg Int32.toInt (rfl)
            have hV_47 : ((z_45 : Int32).toInt = -1 ∧ opL (lnL (i 2) (x.toInt + 1) (i 1 1).toInt) 0 = none) ∨ (x.toInt < (z_45 : Int32).toInt ∧ opL (lnL (i 2) (x.toInt + 1) (i 1 1).toInt) 0 = some (lnL (i 2) (z_45 : Int32).toInt (i 1 1).toInt) ∧ (im_39 (240 + 9 * j) 6).toInt = (i (240 + 9 * j) 6).toInt) := (Or.inr ⟨by omega, hi_lp_2_0.trans (op_good (by omega) (by omega) (by omega) (by omega) (by omega)), by omega⟩)
            exact sj_zret hx hb hr hlocks rfl hS im_39 ⟨hO_41, (fun a ha => ((hfr_40 a (by omega)).trans ((hfr_31 a (by omega)).trans ((hfr_23 a (by omega)).trans (hfr_j1 a (by omega)))))), ⟨by omega, Or.inr ⟨by omega, by omega, ⟨by omega, by omega, by omega, by omega, by omega, by omega, hm_44⟩⟩⟩, hV_47⟩ hH (sj_Knil hK) (Nat.le_of_ble_eq_true rfl) (Nat.le_of_ble_eq_true rfl) dX2_takeOptional_99
          · skip
            have h_48 := s_eq (rfl : r_13.toInt = _) (show (0 : Int32).toInt = 0 from rfl) c_18
            refine lv_iconst (v := (-1)) hx hb dX2_takeOptional_80 (by decide) ?_
            have hlv_49 : ((-1) : Int32).toInt = -1 := rfl
            have hq6_50 : (j1 (240 + 9 * j) 6).toInt = ((i (240 + 9 * j) 6) : Int32).toInt := congrArg Int32.toInt ((congrFun (hfr_j1 (240 + 9 * j) (by omega)) _))
            have hV_51 : (((-1) : Int32).toInt = -1 ∧ opL (lnL (i 2) (x.toInt + 1) (i 1 1).toInt) 0 = none) ∨ (x.toInt < ((-1) : Int32).toInt ∧ opL (lnL (i 2) (x.toInt + 1) (i 1 1).toInt) 0 = some (lnL (i 2) ((-1) : Int32).toInt (i 1 1).toInt) ∧ (j1 (240 + 9 * j) 6).toInt = (i (240 + 9 * j) 6).toInt) := (Or.inl ⟨by omega, hi_lp_2_0.trans (op_bad (by omega) (by omega))⟩)
            exact sj_zret hx hb hr hlocks rfl hS j1 ⟨hO_j1, (fun a ha => (hfr_j1 a (by omega))), ⟨by omega, Or.inl (by omega)⟩, hV_51⟩ hH (sj_Knil hK) (Nat.le_of_ble_eq_true rfl) (Nat.le_of_ble_eq_true rfl) dX2_takeOptional_81
      · skip
        have h_52 := s_nle (rfl : (i 1 1).toInt = _) (rfl : f.toInt = _) c_4
        refine lv_aload_n hx hb dX2_takeOptional_12 rfl (lv_at hl 2 rfl) ?_
        refine lv_iload_n hx hb dX2_takeOptional_13 rfl (lv_at hl 0 rfl) ?_
        have hwt_53 : (j1 1 1).toInt = ((i 1 1) : Int32).toInt := congrArg Int32.toInt (congrFun (hfr_j1 1 (by omega)) _)
        refine x_calli (va_runV (As := [.int f]) (rest := []) ⟨hx, hb, hml, hown, hts⟩ (k_at_text l D g ka ad j1 r L d f hO_j1 hR H.size ) (cwV 1 hts gX2_takeOptional_X3_at rfl rfl rfl (by decide +kernel) ⟨(Nat.le_of_ble_eq_true rfl), (Nat.le_of_ble_eq_true rfl)⟩) (x_preV (q := (RX3, TX3, 2)) hH hK (q_obj (by decide) (rfl : kd 1 = 3) (by decide)) rfl gxb (gxw hE hS (x_F hH hS hA))) rfl rfl hl.1 rfl (lv_room (Nat.le_of_ble_eq_true rfl)) dX2_takeOptional_14 ⟨(Nat.le_of_ble_eq_true rfl), (Nat.le_of_ble_eq_true rfl)⟩) hH hS hA rfl rfl (fun r_54 _ H locs hw_55 hH hS => ?_)
        obtain ⟨hr_57, he_58⟩ := hw_55
        have hr_57 : (-1 : Int) ≤ r_54.toInt ∧ r_54.toInt ≤ 65535 := hr_57
        rw [show j1 2 = i 2 from (hfr_j1 2 (by omega))] at he_58
        refine lv_bipush (v := 41) hx hb dX2_takeOptional_17 (by decide) ?_
        refine lv_icmp_eq (tgt := 61) hx hb dX2_takeOptional_19 (by decide) (fun c_59 => ?_) (fun c_59 => ?_)
        · skip
          have h_60 := s_eq (rfl : r_54.toInt = _) (show (41 : Int32).toInt = 41 from rfl) c_59
          refine lv_iload_n hx hb dX2_takeOptional_61 rfl (lv_at hl 0 rfl) ?_
          refine lv_aload_n hx hb dX2_takeOptional_62 rfl (lv_at hl 2 rfl) ?_
          refine h_geti (ci := 3) (C := RX3) (F := TX3) (N := 2) hx hb hts in3 hown hK hH (by decide) (rfl : kd 1 = 3) (by decide) rfl 1 (by decide) wd0 (fun _ h9 => h9) (by decide) rfl dX2_takeOptional_63 ?_
          refine sj_i (y := (i 1 1)) (congrFun (hfr_j1 1 (by omega)) _) ?_
          refine lv_icmp_ge (tgt := 80) hx hb dX2_takeOptional_66 (by decide) (fun c_61 => ?_) (fun c_61 => ?_)
          · skip
            have h_62 := s_le (rfl : (i 1 1).toInt = _) (rfl : f.toInt = _) c_61
            refine lv_iconst (v := (-1)) hx hb dX2_takeOptional_80 (by decide) ?_
            have hlv_63 : ((-1) : Int32).toInt = -1 := rfl
            have hq6_64 : (j1 (240 + 9 * j) 6).toInt = ((i (240 + 9 * j) 6) : Int32).toInt := congrArg Int32.toInt ((congrFun (hfr_j1 (240 + 9 * j) (by omega)) _))
            have hV_65 : (((-1) : Int32).toInt = -1 ∧ opL (lnL (i 2) (x.toInt + 1) (i 1 1).toInt) 0 = none) ∨ (x.toInt < ((-1) : Int32).toInt ∧ opL (lnL (i 2) (x.toInt + 1) (i 1 1).toInt) 0 = some (lnL (i 2) ((-1) : Int32).toInt (i 1 1).toInt) ∧ (j1 (240 + 9 * j) 6).toInt = (i (240 + 9 * j) 6).toInt) := (Or.inl ⟨by omega, hi_lp_2_0.trans (op_bad (by omega) (by omega))⟩)
            exact sj_zret hx hb hr hlocks rfl hS j1 ⟨hO_j1, (fun a ha => (hfr_j1 a (by omega))), ⟨by omega, Or.inl (by omega)⟩, hV_65⟩ hH (sj_Knil hK) (Nat.le_of_ble_eq_true rfl) (Nat.le_of_ble_eq_true rfl) dX2_takeOptional_81
          · skip
            have h_66 := s_nle (rfl : (i 1 1).toInt = _) (rfl : f.toInt = _) c_61
            refine lv_aload_n hx hb dX2_takeOptional_69 rfl (lv_at hl 1 rfl) ?_
            refine lv_aload_n hx hb dX2_takeOptional_70 rfl (lv_at hl 1 rfl) ?_
            have bx_67 : (0 : Int) ≤ (i (240 + 9 * j) 2).toInt ∧ (i (240 + 9 * j) 2).toInt ≤ 61 := by have h9 := hO (240 + 9 * j) 2; rw [bx_expr0 hj 2] at h9; exact h9
            refine h_geti (ci := 2) (C := RX2) (F := TX2) (N := 11) hx hb hts in2 hown hK hH (lt_nK (by omega)) (kd_expr (t := 0) hj (by decide)) (by decide) rfl 2 (by decide) wd1 (fun _ h9 => h9) (by decide) rfl dX2_takeOptional_71 ?_
            refine sj_i (y := (i (240 + 9 * j) 2)) (congrFun (hfr_j1 (240 + 9 * j) (by omega)) _) ?_
            refine x_calli (va_runV (As := [.int (i (240 + 9 * j) 2)]) (rest := []) ⟨hx, hb, hml, hown, hts⟩ (k_choiceLength l D g ka ad j1 r L d j (i (240 + 9 * j) 2) hO_j1 hR H.size (by first | omega | decide) (by first | omega | decide) (by first | omega | decide)) (cwV 1 hts gX2_takeOptional_X2_choiceLength rfl rfl rfl (by decide +kernel) ⟨(Nat.le_of_ble_eq_true rfl), (Nat.le_of_ble_eq_true rfl)⟩) (x_preV (q := (RX2, TX2, 11)) hH hK (q_obj (lt_nK (by omega)) (kd_expr (t := 0) hj (by decide)) (by decide)) rfl gxb (gxw hE hS (x_F hH hS hA))) rfl rfl hl.1 rfl (lv_room (Nat.le_of_ble_eq_true rfl)) dX2_takeOptional_74 ⟨(Nat.le_of_ble_eq_true rfl), (Nat.le_of_ble_eq_true rfl)⟩) hH hS hA rfl rfl (fun r_68 _ H locs hw_69 hH hS => ?_)
            obtain ⟨hr_71, he_72⟩ := hw_69
            have hr_71 : (-60 : Int) ≤ r_68.toInt ∧ r_68.toInt ≤ 60 := hr_71
            have hr_68C : kC j1 j = (j1 (240 + 9 * j + 2) ((j1 (240 + 9 * j) 2).toInt + 1).toNat).toInt := rfl
            have hr_68B : kB j1 j = (j1 (240 + 9 * j + 2) ((j1 (240 + 9 * j) 2).toInt).toNat).toInt := rfl
            rw [show (j1 (240 + 9 * j) 2).toInt = (i (240 + 9 * j) 2).toInt by omega] at hr_68C hr_68B
            refine lv_if_ne (tgt := 82) hx hb dX2_takeOptional_77 (by decide) (fun c_73 => ?_) (fun c_73 => ?_)
            · skip
              have h_74 := s_ne (rfl : r_68.toInt = _) (show (0 : Int32).toInt = 0 from rfl) c_73
              refine lv_aload_n hx hb dX2_takeOptional_82 rfl (lv_at hl 1 rfl) ?_
              refine x_callv (va_runV (As := []) (rest := []) ⟨hx, hb, hml, hown, hts⟩ (k_endChoice l D g ka ad j1 r L d j hO_j1 hR H.size (by first | omega | decide) (by first | omega | decide)) (cwV 0 hts gX2_takeOptional_X2_endChoice rfl rfl rfl (by decide +kernel) ⟨(Nat.le_of_ble_eq_true rfl), (Nat.le_of_ble_eq_true rfl)⟩) (x_preV (q := (RX2, TX2, 11)) hH hK (q_obj (lt_nK (by omega)) (kd_expr (t := 0) hj (by decide)) (by decide)) rfl gxb (gxw hE hS (x_F hH hS hA))) rfl rfl hl.1 rfl (lv_room (Nat.le_of_ble_eq_true rfl)) dX2_takeOptional_83 ⟨(Nat.le_of_ble_eq_true rfl), (Nat.le_of_ble_eq_true rfl)⟩) hH hS hA rfl rfl (fun im_77 H locs hw_76 hH hS => ?_)
              have hH : sj_H D A (hwc g ka im_77 r L d) H := hH
              obtain ⟨hO_79, hfr_78, he_80, hx2_81⟩ := hw_76
              have hm_82 := hx2_81 hi_lp_2_10 (by omega)
              refine lv_aload_n hx hb dX2_takeOptional_86 rfl (lv_at hl 1 rfl) ?_
              refine x_callv (va_runV (As := []) (rest := []) ⟨hx, hb, hml, hown, hts⟩ (k_endChoice l D g ka ad im_77 r L d j hO_79 hR H.size (by first | omega | decide) (by first | omega | decide)) (cwV 0 hts gX2_takeOptional_X2_endChoice rfl rfl rfl (by decide +kernel) ⟨(Nat.le_of_ble_eq_true rfl), (Nat.le_of_ble_eq_true rfl)⟩) (x_preV (q := (RX2, TX2, 11)) hH hK (q_obj (lt_nK (by omega)) (kd_expr (t := 0) hj (by decide)) (by decide)) rfl gxb (gxw hE hS (x_F hH hS hA))) rfl rfl hl.1 rfl (lv_room (Nat.le_of_ble_eq_true rfl)) dX2_takeOptional_87 ⟨(Nat.le_of_ble_eq_true rfl), (Nat.le_of_ble_eq_true rfl)⟩) hH hS hA rfl rfl (fun im_85 H locs hw_84 hH hS => ?_)
              have hH : sj_H D A (hwc g ka im_85 r L d) H := hH
              obtain ⟨hO_87, hfr_86, he_88, hx2_89⟩ := hw_84
              have hm_90 := hx2_89 hm_82 (by omega)
              refine lv_aload_n hx hb dX2_takeOptional_90 rfl (lv_at hl 1 rfl) ?_
              refine lv_bipush (v := 47) hx hb dX2_takeOptional_91 (by decide) ?_
              have hl_91 : (47 : Int32).toInt = 47 := rfl
              refine x_callv (va_runV (As := [.int 47]) (rest := []) ⟨hx, hb, hml, hown, hts⟩ (k_endElement l D g ka ad im_85 r L d j 47 hO_87 hR H.size (by first | omega | decide) (by first | omega | decide) (by first | omega | decide) (by first | omega | decide)) (cwV 1 hts gX2_takeOptional_X2_endElement rfl rfl rfl (by decide +kernel) ⟨(Nat.le_of_ble_eq_true rfl), (Nat.le_of_ble_eq_true rfl)⟩) (x_preV (q := (RX2, TX2, 11)) hH hK (q_obj (lt_nK (by omega)) (kd_expr (t := 0) hj (by decide)) (by decide)) rfl gxb (gxw hE hS (x_F hH hS hA))) rfl rfl hl.1 rfl (lv_room (Nat.le_of_ble_eq_true rfl)) dX2_takeOptional_93 ⟨(Nat.le_of_ble_eq_true rfl), (Nat.le_of_ble_eq_true rfl)⟩) hH hS hA rfl rfl (fun im_94 H locs hw_93 hH hS => ?_)
              have hH : sj_H D A (hwc g ka im_94 r L d) H := hH
              obtain ⟨hO_96, hfr_95, he_97, hx2_98⟩ := hw_93
              have hm_99 := hx2_98 hm_90
              refine lv_iload_n hx hb dX2_takeOptional_96 rfl (lv_at hl 0 rfl) ?_
              refine lv_iconst (v := 1) hx hb dX2_takeOptional_97 (by decide) ?_
              refine lv_iadd hx hb dX2_takeOptional_98 ?_
              obtain ⟨z_100, ez_100, hz_100⟩ := s_add (rfl : f.toInt = _) (show (1 : Int32).toInt = 1 from rfl) (by omega) (by omega)
              refine sj_i ez_100 ?_
              have hq6_101 : (im_94 (240 + 9 * j) 6).toInt = ((im_94 (240 + 9 * j) 6) : Int32).toInt := congrArg Int32.toInt (rfl)
              have hV_102 : ((z_100 : Int32).toInt = -1 ∧ opL (lnL (i 2) (x.toInt + 1) (i 1 1).toInt) 0 = none) ∨ (x.toInt < (z_100 : Int32).toInt ∧ opL (lnL (i 2) (x.toInt + 1) (i 1 1).toInt) 0 = some (lnL (i 2) (z_100 : Int32).toInt (i 1 1).toInt) ∧ (im_94 (240 + 9 * j) 6).toInt = (i (240 + 9 * j) 6).toInt) := (Or.inr ⟨by omega, hi_lp_2_0.trans (op_good (by omega) (by omega) (by omega) (by omega) (by omega)), by omega⟩)
              exact sj_zret hx hb hr hlocks rfl hS im_94 ⟨hO_96, (fun a ha => ((hfr_95 a (by omega)).trans ((hfr_86 a (by omega)).trans ((hfr_78 a (by omega)).trans (hfr_j1 a (by omega)))))), ⟨by omega, Or.inr ⟨by omega, by omega, ⟨by omega, by omega, by omega, by omega, by omega, by omega, hm_99⟩⟩⟩, hV_102⟩ hH (sj_Knil hK) (Nat.le_of_ble_eq_true rfl) (Nat.le_of_ble_eq_true rfl) dX2_takeOptional_99
            · skip
              have h_103 := s_eq (rfl : r_68.toInt = _) (show (0 : Int32).toInt = 0 from rfl) c_73
              refine lv_iconst (v := (-1)) hx hb dX2_takeOptional_80 (by decide) ?_
              have hlv_104 : ((-1) : Int32).toInt = -1 := rfl
              have hq6_105 : (j1 (240 + 9 * j) 6).toInt = ((i (240 + 9 * j) 6) : Int32).toInt := congrArg Int32.toInt ((congrFun (hfr_j1 (240 + 9 * j) (by omega)) _))
              have hV_106 : (((-1) : Int32).toInt = -1 ∧ opL (lnL (i 2) (x.toInt + 1) (i 1 1).toInt) 0 = none) ∨ (x.toInt < ((-1) : Int32).toInt ∧ opL (lnL (i 2) (x.toInt + 1) (i 1 1).toInt) 0 = some (lnL (i 2) ((-1) : Int32).toInt (i 1 1).toInt) ∧ (j1 (240 + 9 * j) 6).toInt = (i (240 + 9 * j) 6).toInt) := (Or.inl ⟨by omega, hi_lp_2_0.trans (op_bad (by omega) (by omega))⟩)
              exact sj_zret hx hb hr hlocks rfl hS j1 ⟨hO_j1, (fun a ha => (hfr_j1 a (by omega))), ⟨by omega, Or.inl (by omega)⟩, hV_106⟩ hH (sj_Knil hK) (Nat.le_of_ble_eq_true rfl) (Nat.le_of_ble_eq_true rfl) dX2_takeOptional_81
        · skip
          have h_107 := s_ne (rfl : r_54.toInt = _) (show (41 : Int32).toInt = 41 from rfl) c_59
          refine lv_aload_n hx hb dX2_takeOptional_22 rfl (lv_at hl 2 rfl) ?_
          refine lv_iload_n hx hb dX2_takeOptional_23 rfl (lv_at hl 0 rfl) ?_
          have hwt_108 : (j1 1 1).toInt = ((i 1 1) : Int32).toInt := congrArg Int32.toInt (congrFun (hfr_j1 1 (by omega)) _)
          refine x_calli (va_runV (As := [.int f]) (rest := []) ⟨hx, hb, hml, hown, hts⟩ (k_at_text l D g ka ad j1 r L d f hO_j1 hR H.size ) (cwV 1 hts gX2_takeOptional_X3_at rfl rfl rfl (by decide +kernel) ⟨(Nat.le_of_ble_eq_true rfl), (Nat.le_of_ble_eq_true rfl)⟩) (x_preV (q := (RX3, TX3, 2)) hH hK (q_obj (by decide) (rfl : kd 1 = 3) (by decide)) rfl gxb (gxw hE hS (x_F hH hS hA))) rfl rfl hl.1 rfl (lv_room (Nat.le_of_ble_eq_true rfl)) dX2_takeOptional_24 ⟨(Nat.le_of_ble_eq_true rfl), (Nat.le_of_ble_eq_true rfl)⟩) hH hS hA rfl rfl (fun r_109 _ H locs hw_110 hH hS => ?_)
          obtain ⟨hr_112, he_113⟩ := hw_110
          have hr_112 : (-1 : Int) ≤ r_109.toInt ∧ r_109.toInt ≤ 65535 := hr_112
          rw [show j1 2 = i 2 from (hfr_j1 2 (by omega))] at he_113
          refine lv_bipush (v := 92) hx hb dX2_takeOptional_27 (by decide) ?_
          refine lv_icmp_ne (tgt := 35) hx hb dX2_takeOptional_29 (by decide) (fun c_114 => ?_) (fun c_114 => ?_)
          · skip
            have h_115 := s_ne (rfl : r_109.toInt = _) (show (92 : Int32).toInt = 92 from rfl) c_114
            refine lv_iload_n hx hb dX2_takeOptional_35 rfl (lv_at hl 0 rfl) ?_
            refine lv_aload_n hx hb dX2_takeOptional_36 rfl (lv_at hl 2 rfl) ?_
            refine h_geti (ci := 3) (C := RX3) (F := TX3) (N := 2) hx hb hts in3 hown hK hH (by decide) (rfl : kd 1 = 3) (by decide) rfl 1 (by decide) wd0 (fun _ h9 => h9) (by decide) rfl dX2_takeOptional_37 ?_
            refine sj_i (y := (i 1 1)) (congrFun (hfr_j1 1 (by omega)) _) ?_
            refine lv_icmp_lt (tgt := 45) hx hb dX2_takeOptional_40 (by decide) (fun c_116 => ?_) (fun c_116 => ?_)
            · skip
              have h_117 := s_lt (rfl : f.toInt = _) (rfl : (i 1 1).toInt = _) c_116
              refine lv_aload_n hx hb dX2_takeOptional_45 rfl (lv_at hl 1 rfl) ?_
              refine lv_aload_n hx hb dX2_takeOptional_46 rfl (lv_at hl 2 rfl) ?_
              refine h_getr (ci := 3) (C := RX3) (F := TX3) (N := 2) hx hb hts in3 hown hK hH (by decide) (rfl : kd 1 = 3) (by decide) rfl 0 (by decide) wd2 (fun _ h9 => h9) (by decide) rfl (t := 2) (hR 1 0 rfl) (by decide) dX2_takeOptional_47 ?_
              refine lv_iload_n hx hb dX2_takeOptional_50 rfl (lv_at hl 0 rfl) ?_
              have bx_118 : (0 : Int) ≤ (i 2 (f.toInt).toNat).toInt ∧ (i 2 (f.toInt).toNat).toInt ≤ 65535 := hO 2 (f.toInt).toNat
              refine h_cald hx hb hK hH (by decide) (rfl : kd 2 = 14) (s_vin (N := 480) (rfl : f.toInt = _) (rfl : ln 2 = 480) (by omega) (by omega)) dX2_takeOptional_51 ?_
              have ek_119 : f.toNatClampNeg = (f.toInt).toNat := (s_cl (show f.toInt = f.toInt by omega))
              refine sj_i (y := (i 2 (f.toInt).toNat)) (by rw [ek_119]; exact (congrFun (hfr_j1 2 (by omega)) _)) ?_
              refine x_callv (va_runV (As := [.int (i 2 (f.toInt).toNat)]) (rest := []) ⟨hx, hb, hml, hown, hts⟩ (k_addChar l D g ka ad j1 r L d j (i 2 (f.toInt).toNat) hO_j1 hR H.size (by first | omega | decide) (by first | omega | decide) (by first | omega | decide)) (cwV 1 hts gX2_takeOptional_X2_addChar rfl rfl rfl (by decide +kernel) ⟨(Nat.le_of_ble_eq_true rfl), (Nat.le_of_ble_eq_true rfl)⟩) (x_preV (q := (RX2, TX2, 11)) hH hK (q_obj (lt_nK (by omega)) (kd_expr (t := 0) hj (by decide)) (by decide)) rfl gxb (gxw hE hS (x_F hH hS hA))) rfl rfl hl.1 rfl (lv_room (Nat.le_of_ble_eq_true rfl)) dX2_takeOptional_52 ⟨(Nat.le_of_ble_eq_true rfl), (Nat.le_of_ble_eq_true rfl)⟩) hH hS hA rfl rfl (fun im_122 H locs hw_121 hH hS => ?_)
              have hH : sj_H D A (hwc g ka im_122 r L d) H := hH
              obtain ⟨hO_124, hfr_123, he_125, hx2_126⟩ := hw_121
              have hm_127 := hx2_126 hi_lp_2_10
              obtain ⟨z_128, ez_128, hz_128⟩ := s_add (rfl : f.toInt = _) (show (1 : Int32).toInt = 1 from rfl) (by omega) (by omega)
              refine lv_iinc (v := z_128) (lv' := [(3, .int z_128), (0, .ref (g (240 + 9 * j))), (1, .ref (g 1)), (2, .int x)]) hx hb dX2_takeOptional_55 hl (k := 0) rfl ez_128 (by decide) rfl (fun ls hl => ?_)
              refine lv_goto (tgt := 4) hx hb dX2_takeOptional_58 (by decide) ?_
              exact ih_lp_2 z_128 _ _ _ ls (by omega) (by omega) (hi_lp_2_0.trans (op_st (a2 := (z_128 : Int32).toInt) (n2 := kC im_122 j - kB im_122 j) (by omega) (by omega) (by omega) (by omega) (by omega))) (by omega) (by omega) (by omega) (by omega) (by omega) (by omega) (by omega) (by omega) (by omega) hm_127 hO_124 (fun a ha => ((hfr_123 a (by omega)).trans (hfr_j1 a (by omega)))) (lv_sub hl [0, 1, 2, 3] rfl) hH hS
            · skip
              have h_129 := s_nlt (rfl : f.toInt = _) (rfl : (i 1 1).toInt = _) c_116
              refine lv_iconst (v := (-1)) hx hb dX2_takeOptional_43 (by decide) ?_
              have hlv_130 : ((-1) : Int32).toInt = -1 := rfl
              have hq6_131 : (j1 (240 + 9 * j) 6).toInt = ((i (240 + 9 * j) 6) : Int32).toInt := congrArg Int32.toInt ((congrFun (hfr_j1 (240 + 9 * j) (by omega)) _))
              have hV_132 : (((-1) : Int32).toInt = -1 ∧ opL (lnL (i 2) (x.toInt + 1) (i 1 1).toInt) 0 = none) ∨ (x.toInt < ((-1) : Int32).toInt ∧ opL (lnL (i 2) (x.toInt + 1) (i 1 1).toInt) 0 = some (lnL (i 2) ((-1) : Int32).toInt (i 1 1).toInt) ∧ (j1 (240 + 9 * j) 6).toInt = (i (240 + 9 * j) 6).toInt) := (Or.inl ⟨by omega, hi_lp_2_0.trans (op_bad (by omega) (by omega))⟩)
              exact sj_zret hx hb hr hlocks rfl hS j1 ⟨hO_j1, (fun a ha => (hfr_j1 a (by omega))), ⟨by omega, Or.inl (by omega)⟩, hV_132⟩ hH (sj_Knil hK) (Nat.le_of_ble_eq_true rfl) (Nat.le_of_ble_eq_true rfl) dX2_takeOptional_44
          · skip
            have h_133 := s_eq (rfl : r_109.toInt = _) (show (92 : Int32).toInt = 92 from rfl) c_114
            obtain ⟨z_134, ez_134, hz_134⟩ := s_add (rfl : f.toInt = _) (show (1 : Int32).toInt = 1 from rfl) (by omega) (by omega)
            refine lv_iinc (v := z_134) (lv' := [(3, .int z_134), (0, .ref (g (240 + 9 * j))), (1, .ref (g 1)), (2, .int x)]) hx hb dX2_takeOptional_32 hl (k := 0) rfl ez_134 (by decide) rfl (fun ls hl => ?_)
            refine lv_iload_n hx hb dX2_takeOptional_35 rfl (lv_at hl 0 rfl) ?_
            refine lv_aload_n hx hb dX2_takeOptional_36 rfl (lv_at hl 2 rfl) ?_
            refine h_geti (ci := 3) (C := RX3) (F := TX3) (N := 2) hx hb hts in3 hown hK hH (by decide) (rfl : kd 1 = 3) (by decide) rfl 1 (by decide) wd0 (fun _ h9 => h9) (by decide) rfl dX2_takeOptional_37 ?_
            refine sj_i (y := (i 1 1)) (congrFun (hfr_j1 1 (by omega)) _) ?_
            refine lv_icmp_lt (tgt := 45) hx hb dX2_takeOptional_40 (by decide) (fun c_135 => ?_) (fun c_135 => ?_)
            · skip
              have h_136 := s_lt (rfl : z_134.toInt = _) (rfl : (i 1 1).toInt = _) c_135
              refine lv_aload_n hx hb dX2_takeOptional_45 rfl (lv_at hl 1 rfl) ?_
              refine lv_aload_n hx hb dX2_takeOptional_46 rfl (lv_at hl 2 rfl) ?_
              refine h_getr (ci := 3) (C := RX3) (F := TX3) (N := 2) hx hb hts in3 hown hK hH (by decide) (rfl : kd 1 = 3) (by decide) rfl 0 (by decide) wd2 (fun _ h9 => h9) (by decide) rfl (t := 2) (hR 1 0 rfl) (by decide) dX2_takeOptional_47 ?_
              refine lv_iload_n hx hb dX2_takeOptional_50 rfl (lv_at hl 0 rfl) ?_
              have bx_137 : (0 : Int) ≤ (i 2 (f.toInt + 1).toNat).toInt ∧ (i 2 (f.toInt + 1).toNat).toInt ≤ 65535 := hO 2 (f.toInt + 1).toNat
              refine h_cald hx hb hK hH (by decide) (rfl : kd 2 = 14) (s_vin (N := 480) (rfl : z_134.toInt = _) (rfl : ln 2 = 480) (by omega) (by omega)) dX2_takeOptional_51 ?_
              have ek_138 : z_134.toNatClampNeg = (f.toInt + 1).toNat := (s_cl (show z_134.toInt = f.toInt + 1 by omega))
              refine sj_i (y := (i 2 (f.toInt + 1).toNat)) (by rw [ek_138]; exact (congrFun (hfr_j1 2 (by omega)) _)) ?_
              refine x_callv (va_runV (As := [.int (i 2 (f.toInt + 1).toNat)]) (rest := []) ⟨hx, hb, hml, hown, hts⟩ (k_addChar l D g ka ad j1 r L d j (i 2 (f.toInt + 1).toNat) hO_j1 hR H.size (by first | omega | decide) (by first | omega | decide) (by first | omega | decide)) (cwV 1 hts gX2_takeOptional_X2_addChar rfl rfl rfl (by decide +kernel) ⟨(Nat.le_of_ble_eq_true rfl), (Nat.le_of_ble_eq_true rfl)⟩) (x_preV (q := (RX2, TX2, 11)) hH hK (q_obj (lt_nK (by omega)) (kd_expr (t := 0) hj (by decide)) (by decide)) rfl gxb (gxw hE hS (x_F hH hS hA))) rfl rfl hl.1 rfl (lv_room (Nat.le_of_ble_eq_true rfl)) dX2_takeOptional_52 ⟨(Nat.le_of_ble_eq_true rfl), (Nat.le_of_ble_eq_true rfl)⟩) hH hS hA rfl rfl (fun im_141 H locs hw_140 hH hS => ?_)
              have hH : sj_H D A (hwc g ka im_141 r L d) H := hH
              obtain ⟨hO_143, hfr_142, he_144, hx2_145⟩ := hw_140
              have hm_146 := hx2_145 hi_lp_2_10
              obtain ⟨z_147, ez_147, hz_147⟩ := s_add (rfl : z_134.toInt = _) (show (1 : Int32).toInt = 1 from rfl) (by omega) (by omega)
              refine lv_iinc (v := z_147) (lv' := [(3, .int z_147), (0, .ref (g (240 + 9 * j))), (1, .ref (g 1)), (2, .int x)]) hx hb dX2_takeOptional_55 hl (k := 0) rfl ez_147 (by decide) rfl (fun ls hl => ?_)
              refine lv_goto (tgt := 4) hx hb dX2_takeOptional_58 (by decide) ?_
              exact ih_lp_2 z_147 _ _ _ ls (by omega) (by omega) (hi_lp_2_0.trans (op_st (a2 := (z_147 : Int32).toInt) (n2 := kC im_141 j - kB im_141 j) (by omega) (by omega) (by omega) (by omega) (by omega))) (by omega) (by omega) (by omega) (by omega) (by omega) (by omega) (by omega) (by omega) (by omega) hm_146 hO_143 (fun a ha => ((hfr_142 a (by omega)).trans (hfr_j1 a (by omega)))) (lv_sub hl [0, 1, 2, 3] rfl) hH hS
            · skip
              have h_148 := s_nlt (rfl : z_134.toInt = _) (rfl : (i 1 1).toInt = _) c_135
              refine lv_iconst (v := (-1)) hx hb dX2_takeOptional_43 (by decide) ?_
              have hlv_149 : ((-1) : Int32).toInt = -1 := rfl
              have hq6_150 : (j1 (240 + 9 * j) 6).toInt = ((i (240 + 9 * j) 6) : Int32).toInt := congrArg Int32.toInt ((congrFun (hfr_j1 (240 + 9 * j) (by omega)) _))
              have hV_151 : (((-1) : Int32).toInt = -1 ∧ opL (lnL (i 2) (x.toInt + 1) (i 1 1).toInt) 0 = none) ∨ (x.toInt < ((-1) : Int32).toInt ∧ opL (lnL (i 2) (x.toInt + 1) (i 1 1).toInt) 0 = some (lnL (i 2) ((-1) : Int32).toInt (i 1 1).toInt) ∧ (j1 (240 + 9 * j) 6).toInt = (i (240 + 9 * j) 6).toInt) := (Or.inl ⟨by omega, hi_lp_2_0.trans (op_bad (by omega) (by omega))⟩)
              exact sj_zret hx hb hr hlocks rfl hS j1 ⟨hO_j1, (fun a ha => (hfr_j1 a (by omega))), ⟨by omega, Or.inl (by omega)⟩, hV_151⟩ hH (sj_Knil hK) (Nat.le_of_ble_eq_true rfl) (Nat.le_of_ble_eq_true rfl) dX2_takeOptional_44
  exact lp_2 _ z_1 _ _ _ ls (Nat.lt_succ_self _) (by omega) (by rw [show (z_1 : Int32).toInt = x.toInt + 1 by omega, show kC i j - kB i j = 0 by omega]) (by omega) (by omega) (by omega) (by omega) (by omega) (by omega) (by omega) (by omega) (by omega) hT7 hO (fun a ha => rfl) (lv_sub hl [0, 1, 2, 3] rfl) hH hS
set_option maxHeartbeats 2000000 in
set_option maxRecDepth 100000 in
theorem kv_takeWord (l : Launch) (D : va_G) (g : Nat → Nat) (ka : Nat → ClassId) (ad : Nat → Nat) (i : Nat → Nat → Int32) (r : Nat → Nat → Nat) (L : Nat → Nat → Int64) (d : Nat → Nat → UInt64) (j : Nat) (x : Int32) (hO : OkI i) (hR : RS r) (sz : Nat) (hj : j < 13) (hl0 : (i 1 1).toInt ≤ 60) (hx0 : 0 ≤ x.toInt) (hx1 : x.toInt < (i 1 1).toInt) (hTx : exT i j x.toInt) : Met l yX2_takeWord wsX2_takeWord ({ frames := 1, cells := 0, slots := 0, locals := 21 }) (va_Pc [.ref (g (240 + 9 * j)), .ref (g 1), .int x] (sj_B D (hwc g ka i r L d) (hT ka) sz (gx ad (va_A (hwc g ka i r L d) sz)))) (sj_Qi (S := (Nat → Nat → Int32)) D (fun v u => OkI u ∧ (∀ a, ¬ (a = 240 + 9 * j ∨ a = 240 + 9 * j + 1 ∨ a = 240 + 9 * j + 2 ∨ a = 240 + 9 * j + 3 ∨ a = 240 + 9 * j + 4) → u a = i a) ∧ ((u (240 + 9 * j + 2) 0).toInt = 0 ∧ (v.toInt = -1 ∨ (x.toInt < v.toInt ∧ v.toInt ≤ (i 1 1).toInt ∧ exT u j v.toInt))) ∧ ((v.toInt = -1 ∧ wdL (lnL (i 2) x.toInt (i 1 1).toInt) 0 = none) ∨ (x.toInt < v.toInt ∧ wdL (lnL (i 2) x.toInt (i 1 1).toInt) 0 = some (lnL (i 2) v.toInt (i 1 1).toInt) ∧ (u (240 + 9 * j) 6).toInt = (i (240 + 9 * j) 6).toInt))) (fun u => hwc g ka u r L d) (fun _ => []) (va_A (hwc g ka i r L d) sz)) 0 0 (va_A (hwc g ka i r L d) sz) := by
  refine x_met (Ex := gx ad) (cc := cX2_takeWord) (maxL := 4) (ret := (some .int)) (by decide) rfl (Nat.le_of_ble_eq_true rfl) ?_
  intro p e s m below meth c A ls hx hb hr hml hts hown hlocks hA hS hH hK hE hl
  have hown : s.vm.findClass RX2 = some m.cls := hown
  have in2 : ∀ w ∈ wsX20, w ∈ wsX2_takeWord := (fun _ h => (List.mem_cons_of_mem _ (List.mem_append_right _ h)))
  have in3 : ∀ w ∈ wsX30, w ∈ wsX2_takeWord := (fun _ h => (List.mem_cons_of_mem _ (List.mem_append_left _ (List.mem_append_right _ h))))
  have wd0 := hts (.fieldLink RX2 48 "StoryDesk$Letters" "length" "I") (List.mem_cons_of_mem _ (List.mem_append_left _ (List.mem_append_left _ (List.mem_append_left _ lm0))))
  have wd1 := hts (.fieldLink RX2 42 "StoryDesk$Expression" "choices" "I") (List.mem_cons_of_mem _ (List.mem_append_left _ (List.mem_append_left _ (List.mem_append_left _ lm2))))
  have wd2 := hts (.fieldLink RX2 57 "StoryDesk$Letters" "chars" "[C") (List.mem_cons_of_mem _ (List.mem_append_left _ (List.mem_append_left _ (List.mem_append_left _ lm1))))
  have hl : lv_has ls 4 [(0, .ref (g (240 + 9 * j))), (1, .ref (g 1)), (2, .int x)] := hl
  have hK : va_K D vwCl (hT ka) s := hK
  obtain ⟨hT1, hT2, hT3, hT4, hT5, hT6, hT7⟩ := hTx
  refine lv_iload_n hx hb dX2_takeWord_0 rfl (lv_at hl 2 rfl) ?_
  refine lv_istore_n (lv' := [(3, .int x), (0, .ref (g (240 + 9 * j))), (1, .ref (g 1)), (2, .int x)]) hx hb dX2_takeWord_1 rfl hl (by decide) rfl (fun ls hl => ?_)
  -- loop at 2
  have lp_1 : ∀ (fuel_lp_1 : Nat) (f : Int32) (j1 : Nat → Nat → Int32) (H : Heap) (locs : List Loc) (ls : Array Slot), (60 - f.toInt).toNat < fuel_lp_1 → (0 : Int) ≤ f.toInt ∧ f.toInt ≤ 60 → wdL (lnL (i 2) x.toInt (i 1 1).toInt) 0 = wdL (lnL (i 2) f.toInt (i 1 1).toInt) (kC j1 j - kB j1 j) → x.toInt ≤ f.toInt → f.toInt ≤ (i 1 1).toInt → x.toInt < f.toInt ∨ kB j1 j = kC j1 j → kC j1 j ≤ f.toInt → (kB j1 j = kC j1 j ∧ (j1 (240 + 9 * j) 2).toInt ≤ f.toInt) ∨ (kB j1 j ≠ kC j1 j ∧ (j1 (240 + 9 * j) 2).toInt + 1 ≤ f.toInt) → (j1 (240 + 9 * j) 5).toInt = (i (240 + 9 * j) 5).toInt → (j1 (240 + 9 * j) 6).toInt = (i (240 + 9 * j) 6).toInt → cn j1 j = cn i j → (j1 (240 + 9 * j + 2) 0).toInt = 0 → kB j1 j ≤ kC j1 j → mono j1 j → OkI j1 → (∀ a, ¬ (a = 240 + 9 * j ∨ a = 240 + 9 * j + 1 ∨ a = 240 + 9 * j + 2) → j1 a = i a) → lv_has ls 4 [(3, .int f), (0, .ref (g (240 + 9 * j))), (1, .ref (g 1)), (2, .int x)] → sj_H D A (hwc g ka j1 r L d) H → va_S A s.heap H locs → W p l e (headSpec wsX2_takeWord ({ frames := 1, cells := 0, slots := 0, locals := 21 })).room s m ([.ref (g (240 + 9 * j)), .ref (g 1), .int x] : List Value).toArray below meth c H locs 0 0 (MQ below (sj_Qi (S := (Nat → Nat → Int32)) D (fun v u => OkI u ∧ (∀ a, ¬ (a = 240 + 9 * j ∨ a = 240 + 9 * j + 1 ∨ a = 240 + 9 * j + 2 ∨ a = 240 + 9 * j + 3 ∨ a = 240 + 9 * j + 4) → u a = i a) ∧ ((u (240 + 9 * j + 2) 0).toInt = 0 ∧ (v.toInt = -1 ∨ (x.toInt < v.toInt ∧ v.toInt ≤ (i 1 1).toInt ∧ exT u j v.toInt))) ∧ ((v.toInt = -1 ∧ wdL (lnL (i 2) x.toInt (i 1 1).toInt) 0 = none) ∨ (x.toInt < v.toInt ∧ wdL (lnL (i 2) x.toInt (i 1 1).toInt) 0 = some (lnL (i 2) v.toInt (i 1 1).toInt) ∧ (u (240 + 9 * j) 6).toInt = (i (240 + 9 * j) 6).toInt))) (fun u => hwc g ka u r L d) (fun _ => []) A) ([.ref (g (240 + 9 * j)), .ref (g 1), .int x] : List Value).toArray s 0 0 A) (F0 m 2 ls []) := by
    intro fuel_lp_1
    induction fuel_lp_1 with
    | zero => intros; omega
    | succ fuel_lp_1 ih_lp_1 =>
      intro f j1 H locs ls hm hr_f hi_lp_1_0 hi_lp_1_1 hi_lp_1_2 hi_lp_1_3 hi_lp_1_4 hi_lp_1_5 hi_lp_1_6 hi_lp_1_7 hi_lp_1_8 hi_lp_1_9 hi_lp_1_10 hi_lp_1_11 hO_j1 hfr_j1 hl hH hS
      refine lv_iload_n hx hb dX2_takeWord_2 rfl (lv_at hl 0 rfl) ?_
      refine lv_aload_n hx hb dX2_takeWord_3 rfl (lv_at hl 2 rfl) ?_
      have bx_2 : (0 : Int) ≤ (i 1 1).toInt ∧ (i 1 1).toInt ≤ 480 := hO 1 1
      refine h_geti (ci := 3) (C := RX3) (F := TX3) (N := 2) hx hb hts in3 hown hK hH (by decide) (rfl : kd 1 = 3) (by decide) rfl 1 (by decide) wd0 (fun _ h9 => h9) (by decide) rfl dX2_takeWord_4 ?_
      refine sj_i (y := (i 1 1)) (congrFun (hfr_j1 1 (by omega)) _) ?_
      refine lv_icmp_ge (tgt := 92) hx hb dX2_takeWord_7 (by decide) (fun c_3 => ?_) (fun c_3 => ?_)
      · skip
        have h_4 := s_le (rfl : (i 1 1).toInt = _) (rfl : f.toInt = _) c_3
        refine lv_aload_n hx hb dX2_takeWord_92 rfl (lv_at hl 1 rfl) ?_
        refine lv_aload_n hx hb dX2_takeWord_93 rfl (lv_at hl 1 rfl) ?_
        have bx_5 : (0 : Int) ≤ (j1 (240 + 9 * j) 2).toInt ∧ (j1 (240 + 9 * j) 2).toInt ≤ 61 := by have h9 := hO_j1 (240 + 9 * j) 2; rw [bx_expr0 hj 2] at h9; exact h9
        refine h_geti (ci := 2) (C := RX2) (F := TX2) (N := 11) hx hb hts in2 hown hK hH (lt_nK (by omega)) (kd_expr (t := 0) hj (by decide)) (by decide) rfl 2 (by decide) wd1 (fun _ h9 => h9) (by decide) rfl dX2_takeWord_94 ?_
        refine x_calli (va_runV (As := [.int (j1 (240 + 9 * j) 2)]) (rest := []) ⟨hx, hb, hml, hown, hts⟩ (k_choiceLength l D g ka ad j1 r L d j (j1 (240 + 9 * j) 2) hO_j1 hR H.size (by first | omega | decide) (by first | omega | decide) (by first | omega | decide)) (cwV 1 hts gX2_takeWord_X2_choiceLength rfl rfl rfl (by decide +kernel) ⟨(Nat.le_of_ble_eq_true rfl), (Nat.le_of_ble_eq_true rfl)⟩) (x_preV (q := (RX2, TX2, 11)) hH hK (q_obj (lt_nK (by omega)) (kd_expr (t := 0) hj (by decide)) (by decide)) rfl gxb (gxw hE hS (x_F hH hS hA))) rfl rfl hl.1 rfl (lv_room (Nat.le_of_ble_eq_true rfl)) dX2_takeWord_97 ⟨(Nat.le_of_ble_eq_true rfl), (Nat.le_of_ble_eq_true rfl)⟩) hH hS hA rfl rfl (fun r_6 _ H locs hw_7 hH hS => ?_)
        obtain ⟨hr_9, he_10⟩ := hw_7
        have hr_9 : (-60 : Int) ≤ r_6.toInt ∧ r_6.toInt ≤ 60 := hr_9
        have hr_6C : kC j1 j = (j1 (240 + 9 * j + 2) ((j1 (240 + 9 * j) 2).toInt + 1).toNat).toInt := rfl
        have hr_6B : kB j1 j = (j1 (240 + 9 * j + 2) ((j1 (240 + 9 * j) 2).toInt).toNat).toInt := rfl
        refine lv_if_ne (tgt := 105) hx hb dX2_takeWord_100 (by decide) (fun c_11 => ?_) (fun c_11 => ?_)
        · skip
          have h_12 := s_ne (rfl : r_6.toInt = _) (show (0 : Int32).toInt = 0 from rfl) c_11
          refine lv_aload_n hx hb dX2_takeWord_105 rfl (lv_at hl 1 rfl) ?_
          refine x_callv (va_runV (As := []) (rest := []) ⟨hx, hb, hml, hown, hts⟩ (k_endChoice l D g ka ad j1 r L d j hO_j1 hR H.size (by first | omega | decide) (by first | omega | decide)) (cwV 0 hts gX2_takeWord_X2_endChoice rfl rfl rfl (by decide +kernel) ⟨(Nat.le_of_ble_eq_true rfl), (Nat.le_of_ble_eq_true rfl)⟩) (x_preV (q := (RX2, TX2, 11)) hH hK (q_obj (lt_nK (by omega)) (kd_expr (t := 0) hj (by decide)) (by decide)) rfl gxb (gxw hE hS (x_F hH hS hA))) rfl rfl hl.1 rfl (lv_room (Nat.le_of_ble_eq_true rfl)) dX2_takeWord_106 ⟨(Nat.le_of_ble_eq_true rfl), (Nat.le_of_ble_eq_true rfl)⟩) hH hS hA rfl rfl (fun im_15 H locs hw_14 hH hS => ?_)
          have hH : sj_H D A (hwc g ka im_15 r L d) H := hH
          obtain ⟨hO_17, hfr_16, he_18, hx2_19⟩ := hw_14
          have hm_20 := hx2_19 hi_lp_1_11 (by omega)
          refine lv_aload_n hx hb dX2_takeWord_109 rfl (lv_at hl 1 rfl) ?_
          refine lv_bipush (v := 47) hx hb dX2_takeWord_110 (by decide) ?_
          have hl_21 : (47 : Int32).toInt = 47 := rfl
          refine x_callv (va_runV (As := [.int 47]) (rest := []) ⟨hx, hb, hml, hown, hts⟩ (k_endElement l D g ka ad im_15 r L d j 47 hO_17 hR H.size (by first | omega | decide) (by first | omega | decide) (by first | omega | decide) (by first | omega | decide)) (cwV 1 hts gX2_takeWord_X2_endElement rfl rfl rfl (by decide +kernel) ⟨(Nat.le_of_ble_eq_true rfl), (Nat.le_of_ble_eq_true rfl)⟩) (x_preV (q := (RX2, TX2, 11)) hH hK (q_obj (lt_nK (by omega)) (kd_expr (t := 0) hj (by decide)) (by decide)) rfl gxb (gxw hE hS (x_F hH hS hA))) rfl rfl hl.1 rfl (lv_room (Nat.le_of_ble_eq_true rfl)) dX2_takeWord_112 ⟨(Nat.le_of_ble_eq_true rfl), (Nat.le_of_ble_eq_true rfl)⟩) hH hS hA rfl rfl (fun im_24 H locs hw_23 hH hS => ?_)
          have hH : sj_H D A (hwc g ka im_24 r L d) H := hH
          obtain ⟨hO_26, hfr_25, he_27, hx2_28⟩ := hw_23
          have hm_29 := hx2_28 hm_20
          refine lv_iload_n hx hb dX2_takeWord_115 rfl (lv_at hl 0 rfl) ?_
          have hq6_30 : (im_24 (240 + 9 * j) 6).toInt = ((im_24 (240 + 9 * j) 6) : Int32).toInt := congrArg Int32.toInt (rfl)
          have hV_31 : ((f : Int32).toInt = -1 ∧ wdL (lnL (i 2) x.toInt (i 1 1).toInt) 0 = none) ∨ (x.toInt < (f : Int32).toInt ∧ wdL (lnL (i 2) x.toInt (i 1 1).toInt) 0 = some (lnL (i 2) (f : Int32).toInt (i 1 1).toInt) ∧ (im_24 (240 + 9 * j) 6).toInt = (i (240 + 9 * j) 6).toInt) := (Or.inr ⟨by omega, hi_lp_1_0.trans (wd_good (by omega) (by omega) (by omega)), by omega⟩)
          exact sj_zret hx hb hr hlocks rfl hS im_24 ⟨hO_26, (fun a ha => ((hfr_25 a (by omega)).trans ((hfr_16 a (by omega)).trans (hfr_j1 a (by omega))))), ⟨by omega, Or.inr ⟨by omega, by omega, ⟨by omega, by omega, by omega, by omega, by omega, by omega, hm_29⟩⟩⟩, hV_31⟩ hH (sj_Knil hK) (Nat.le_of_ble_eq_true rfl) (Nat.le_of_ble_eq_true rfl) dX2_takeWord_116
        · skip
          have h_32 := s_eq (rfl : r_6.toInt = _) (show (0 : Int32).toInt = 0 from rfl) c_11
          refine lv_iconst (v := (-1)) hx hb dX2_takeWord_103 (by decide) ?_
          have hlv_33 : ((-1) : Int32).toInt = -1 := rfl
          have hq6_34 : (j1 (240 + 9 * j) 6).toInt = ((j1 (240 + 9 * j) 6) : Int32).toInt := congrArg Int32.toInt (rfl)
          have hV_35 : (((-1) : Int32).toInt = -1 ∧ wdL (lnL (i 2) x.toInt (i 1 1).toInt) 0 = none) ∨ (x.toInt < ((-1) : Int32).toInt ∧ wdL (lnL (i 2) x.toInt (i 1 1).toInt) 0 = some (lnL (i 2) ((-1) : Int32).toInt (i 1 1).toInt) ∧ (j1 (240 + 9 * j) 6).toInt = (i (240 + 9 * j) 6).toInt) := (Or.inl ⟨by omega, hi_lp_1_0.trans (wd_bad (by omega) (by omega))⟩)
          exact sj_zret hx hb hr hlocks rfl hS j1 ⟨hO_j1, (fun a ha => (hfr_j1 a (by omega))), ⟨by omega, Or.inl (by omega)⟩, hV_35⟩ hH (sj_Knil hK) (Nat.le_of_ble_eq_true rfl) (Nat.le_of_ble_eq_true rfl) dX2_takeWord_104
      · skip
        have h_36 := s_nle (rfl : (i 1 1).toInt = _) (rfl : f.toInt = _) c_3
        refine lv_aload_n hx hb dX2_takeWord_10 rfl (lv_at hl 1 rfl) ?_
        refine lv_aload_n hx hb dX2_takeWord_11 rfl (lv_at hl 2 rfl) ?_
        refine h_getr (ci := 3) (C := RX3) (F := TX3) (N := 2) hx hb hts in3 hown hK hH (by decide) (rfl : kd 1 = 3) (by decide) rfl 0 (by decide) wd2 (fun _ h9 => h9) (by decide) rfl (t := 2) (hR 1 0 rfl) (by decide) dX2_takeWord_12 ?_
        refine lv_iload_n hx hb dX2_takeWord_15 rfl (lv_at hl 0 rfl) ?_
        have bx_37 : (0 : Int) ≤ (i 2 (f.toInt).toNat).toInt ∧ (i 2 (f.toInt).toNat).toInt ≤ 65535 := hO 2 (f.toInt).toNat
        refine h_cald hx hb hK hH (by decide) (rfl : kd 2 = 14) (s_vin (N := 480) (rfl : f.toInt = _) (rfl : ln 2 = 480) (by omega) (by omega)) dX2_takeWord_16 ?_
        have ek_38 : f.toNatClampNeg = (f.toInt).toNat := (s_cl (show f.toInt = f.toInt by omega))
        refine sj_i (y := (i 2 (f.toInt).toNat)) (by rw [ek_38]; exact (congrFun (hfr_j1 2 (by omega)) _)) ?_
        refine x_calli (va_runV (As := [.int (i 2 (f.toInt).toNat)]) (rest := []) ⟨hx, hb, hml, hown, hts⟩ (kv_endsWord l D g ka ad j1 r L d j (i 2 (f.toInt).toNat) hO_j1 hR H.size (by first | omega | decide)) (cwV 1 hts gX2_takeWord_X2_endsWord rfl rfl rfl (by decide +kernel) ⟨(Nat.le_of_ble_eq_true rfl), (Nat.le_of_ble_eq_true rfl)⟩) (x_preV (q := (RX2, TX2, 11)) hH hK (q_obj (lt_nK (by omega)) (kd_expr (t := 0) hj (by decide)) (by decide)) rfl gxb (gxw hE hS (x_F hH hS hA))) rfl rfl hl.1 rfl (lv_room (Nat.le_of_ble_eq_true rfl)) dX2_takeWord_17 ⟨(Nat.le_of_ble_eq_true rfl), (Nat.le_of_ble_eq_true rfl)⟩) hH hS hA rfl rfl (fun r_39 _ H locs hw_40 hH hS => ?_)
        obtain ⟨hr_42, he_43⟩ := hw_40
        have hr_42 : (0 : Int) ≤ r_39.toInt ∧ r_39.toInt ≤ 1 := hr_42
        refine lv_if_ne (tgt := 92) hx hb dX2_takeWord_20 (by decide) (fun c_44 => ?_) (fun c_44 => ?_)
        · skip
          have h_45 := s_ne (rfl : r_39.toInt = _) (show (0 : Int32).toInt = 0 from rfl) c_44
          refine lv_aload_n hx hb dX2_takeWord_92 rfl (lv_at hl 1 rfl) ?_
          refine lv_aload_n hx hb dX2_takeWord_93 rfl (lv_at hl 1 rfl) ?_
          have bx_46 : (0 : Int) ≤ (j1 (240 + 9 * j) 2).toInt ∧ (j1 (240 + 9 * j) 2).toInt ≤ 61 := by have h9 := hO_j1 (240 + 9 * j) 2; rw [bx_expr0 hj 2] at h9; exact h9
          refine h_geti (ci := 2) (C := RX2) (F := TX2) (N := 11) hx hb hts in2 hown hK hH (lt_nK (by omega)) (kd_expr (t := 0) hj (by decide)) (by decide) rfl 2 (by decide) wd1 (fun _ h9 => h9) (by decide) rfl dX2_takeWord_94 ?_
          refine x_calli (va_runV (As := [.int (j1 (240 + 9 * j) 2)]) (rest := []) ⟨hx, hb, hml, hown, hts⟩ (k_choiceLength l D g ka ad j1 r L d j (j1 (240 + 9 * j) 2) hO_j1 hR H.size (by first | omega | decide) (by first | omega | decide) (by first | omega | decide)) (cwV 1 hts gX2_takeWord_X2_choiceLength rfl rfl rfl (by decide +kernel) ⟨(Nat.le_of_ble_eq_true rfl), (Nat.le_of_ble_eq_true rfl)⟩) (x_preV (q := (RX2, TX2, 11)) hH hK (q_obj (lt_nK (by omega)) (kd_expr (t := 0) hj (by decide)) (by decide)) rfl gxb (gxw hE hS (x_F hH hS hA))) rfl rfl hl.1 rfl (lv_room (Nat.le_of_ble_eq_true rfl)) dX2_takeWord_97 ⟨(Nat.le_of_ble_eq_true rfl), (Nat.le_of_ble_eq_true rfl)⟩) hH hS hA rfl rfl (fun r_47 _ H locs hw_48 hH hS => ?_)
          obtain ⟨hr_50, he_51⟩ := hw_48
          have hr_50 : (-60 : Int) ≤ r_47.toInt ∧ r_47.toInt ≤ 60 := hr_50
          have hr_47C : kC j1 j = (j1 (240 + 9 * j + 2) ((j1 (240 + 9 * j) 2).toInt + 1).toNat).toInt := rfl
          have hr_47B : kB j1 j = (j1 (240 + 9 * j + 2) ((j1 (240 + 9 * j) 2).toInt).toNat).toInt := rfl
          refine lv_if_ne (tgt := 105) hx hb dX2_takeWord_100 (by decide) (fun c_52 => ?_) (fun c_52 => ?_)
          · skip
            have h_53 := s_ne (rfl : r_47.toInt = _) (show (0 : Int32).toInt = 0 from rfl) c_52
            refine lv_aload_n hx hb dX2_takeWord_105 rfl (lv_at hl 1 rfl) ?_
            refine x_callv (va_runV (As := []) (rest := []) ⟨hx, hb, hml, hown, hts⟩ (k_endChoice l D g ka ad j1 r L d j hO_j1 hR H.size (by first | omega | decide) (by first | omega | decide)) (cwV 0 hts gX2_takeWord_X2_endChoice rfl rfl rfl (by decide +kernel) ⟨(Nat.le_of_ble_eq_true rfl), (Nat.le_of_ble_eq_true rfl)⟩) (x_preV (q := (RX2, TX2, 11)) hH hK (q_obj (lt_nK (by omega)) (kd_expr (t := 0) hj (by decide)) (by decide)) rfl gxb (gxw hE hS (x_F hH hS hA))) rfl rfl hl.1 rfl (lv_room (Nat.le_of_ble_eq_true rfl)) dX2_takeWord_106 ⟨(Nat.le_of_ble_eq_true rfl), (Nat.le_of_ble_eq_true rfl)⟩) hH hS hA rfl rfl (fun im_56 H locs hw_55 hH hS => ?_)
            have hH : sj_H D A (hwc g ka im_56 r L d) H := hH
            obtain ⟨hO_58, hfr_57, he_59, hx2_60⟩ := hw_55
            have hm_61 := hx2_60 hi_lp_1_11 (by omega)
            refine lv_aload_n hx hb dX2_takeWord_109 rfl (lv_at hl 1 rfl) ?_
            refine lv_bipush (v := 47) hx hb dX2_takeWord_110 (by decide) ?_
            have hl_62 : (47 : Int32).toInt = 47 := rfl
            refine x_callv (va_runV (As := [.int 47]) (rest := []) ⟨hx, hb, hml, hown, hts⟩ (k_endElement l D g ka ad im_56 r L d j 47 hO_58 hR H.size (by first | omega | decide) (by first | omega | decide) (by first | omega | decide) (by first | omega | decide)) (cwV 1 hts gX2_takeWord_X2_endElement rfl rfl rfl (by decide +kernel) ⟨(Nat.le_of_ble_eq_true rfl), (Nat.le_of_ble_eq_true rfl)⟩) (x_preV (q := (RX2, TX2, 11)) hH hK (q_obj (lt_nK (by omega)) (kd_expr (t := 0) hj (by decide)) (by decide)) rfl gxb (gxw hE hS (x_F hH hS hA))) rfl rfl hl.1 rfl (lv_room (Nat.le_of_ble_eq_true rfl)) dX2_takeWord_112 ⟨(Nat.le_of_ble_eq_true rfl), (Nat.le_of_ble_eq_true rfl)⟩) hH hS hA rfl rfl (fun im_65 H locs hw_64 hH hS => ?_)
            have hH : sj_H D A (hwc g ka im_65 r L d) H := hH
            obtain ⟨hO_67, hfr_66, he_68, hx2_69⟩ := hw_64
            have hm_70 := hx2_69 hm_61
            refine lv_iload_n hx hb dX2_takeWord_115 rfl (lv_at hl 0 rfl) ?_
            have hq6_71 : (im_65 (240 + 9 * j) 6).toInt = ((im_65 (240 + 9 * j) 6) : Int32).toInt := congrArg Int32.toInt (rfl)
            have hV_72 : ((f : Int32).toInt = -1 ∧ wdL (lnL (i 2) x.toInt (i 1 1).toInt) 0 = none) ∨ (x.toInt < (f : Int32).toInt ∧ wdL (lnL (i 2) x.toInt (i 1 1).toInt) 0 = some (lnL (i 2) (f : Int32).toInt (i 1 1).toInt) ∧ (im_65 (240 + 9 * j) 6).toInt = (i (240 + 9 * j) 6).toInt) := (Or.inr ⟨by omega, hi_lp_1_0.trans (wd_good (by omega) (by omega) (by omega)), by omega⟩)
            exact sj_zret hx hb hr hlocks rfl hS im_65 ⟨hO_67, (fun a ha => ((hfr_66 a (by omega)).trans ((hfr_57 a (by omega)).trans (hfr_j1 a (by omega))))), ⟨by omega, Or.inr ⟨by omega, by omega, ⟨by omega, by omega, by omega, by omega, by omega, by omega, hm_70⟩⟩⟩, hV_72⟩ hH (sj_Knil hK) (Nat.le_of_ble_eq_true rfl) (Nat.le_of_ble_eq_true rfl) dX2_takeWord_116
          · skip
            have h_73 := s_eq (rfl : r_47.toInt = _) (show (0 : Int32).toInt = 0 from rfl) c_52
            refine lv_iconst (v := (-1)) hx hb dX2_takeWord_103 (by decide) ?_
            have hlv_74 : ((-1) : Int32).toInt = -1 := rfl
            have hq6_75 : (j1 (240 + 9 * j) 6).toInt = ((j1 (240 + 9 * j) 6) : Int32).toInt := congrArg Int32.toInt (rfl)
            have hV_76 : (((-1) : Int32).toInt = -1 ∧ wdL (lnL (i 2) x.toInt (i 1 1).toInt) 0 = none) ∨ (x.toInt < ((-1) : Int32).toInt ∧ wdL (lnL (i 2) x.toInt (i 1 1).toInt) 0 = some (lnL (i 2) ((-1) : Int32).toInt (i 1 1).toInt) ∧ (j1 (240 + 9 * j) 6).toInt = (i (240 + 9 * j) 6).toInt) := (Or.inl ⟨by omega, hi_lp_1_0.trans (wd_bad (by omega) (by omega))⟩)
            exact sj_zret hx hb hr hlocks rfl hS j1 ⟨hO_j1, (fun a ha => (hfr_j1 a (by omega))), ⟨by omega, Or.inl (by omega)⟩, hV_76⟩ hH (sj_Knil hK) (Nat.le_of_ble_eq_true rfl) (Nat.le_of_ble_eq_true rfl) dX2_takeWord_104
        · skip
          have h_77 := s_eq (rfl : r_39.toInt = _) (show (0 : Int32).toInt = 0 from rfl) c_44
          refine lv_aload_n hx hb dX2_takeWord_23 rfl (lv_at hl 2 rfl) ?_
          refine lv_iload_n hx hb dX2_takeWord_24 rfl (lv_at hl 0 rfl) ?_
          have hwt_78 : (j1 1 1).toInt = ((i 1 1) : Int32).toInt := congrArg Int32.toInt (congrFun (hfr_j1 1 (by omega)) _)
          refine x_calli (va_runV (As := [.int f]) (rest := []) ⟨hx, hb, hml, hown, hts⟩ (k_at_text l D g ka ad j1 r L d f hO_j1 hR H.size ) (cwV 1 hts gX2_takeWord_X3_at rfl rfl rfl (by decide +kernel) ⟨(Nat.le_of_ble_eq_true rfl), (Nat.le_of_ble_eq_true rfl)⟩) (x_preV (q := (RX3, TX3, 2)) hH hK (q_obj (by decide) (rfl : kd 1 = 3) (by decide)) rfl gxb (gxw hE hS (x_F hH hS hA))) rfl rfl hl.1 rfl (lv_room (Nat.le_of_ble_eq_true rfl)) dX2_takeWord_25 ⟨(Nat.le_of_ble_eq_true rfl), (Nat.le_of_ble_eq_true rfl)⟩) hH hS hA rfl rfl (fun r_79 _ H locs hw_80 hH hS => ?_)
          obtain ⟨hr_82, he_83⟩ := hw_80
          have hr_82 : (-1 : Int) ≤ r_79.toInt ∧ r_79.toInt ≤ 65535 := hr_82
          rw [show j1 2 = i 2 from (hfr_j1 2 (by omega))] at he_83
          refine lv_bipush (v := 47) hx hb dX2_takeWord_28 (by decide) ?_
          refine lv_icmp_ne (tgt := 53) hx hb dX2_takeWord_30 (by decide) (fun c_84 => ?_) (fun c_84 => ?_)
          · skip
            have h_85 := s_ne (rfl : r_79.toInt = _) (show (47 : Int32).toInt = 47 from rfl) c_84
            refine lv_aload_n hx hb dX2_takeWord_53 rfl (lv_at hl 2 rfl) ?_
            refine lv_iload_n hx hb dX2_takeWord_54 rfl (lv_at hl 0 rfl) ?_
            have hwt_86 : (j1 1 1).toInt = ((i 1 1) : Int32).toInt := congrArg Int32.toInt (congrFun (hfr_j1 1 (by omega)) _)
            refine x_calli (va_runV (As := [.int f]) (rest := []) ⟨hx, hb, hml, hown, hts⟩ (k_at_text l D g ka ad j1 r L d f hO_j1 hR H.size ) (cwV 1 hts gX2_takeWord_X3_at rfl rfl rfl (by decide +kernel) ⟨(Nat.le_of_ble_eq_true rfl), (Nat.le_of_ble_eq_true rfl)⟩) (x_preV (q := (RX3, TX3, 2)) hH hK (q_obj (by decide) (rfl : kd 1 = 3) (by decide)) rfl gxb (gxw hE hS (x_F hH hS hA))) rfl rfl hl.1 rfl (lv_room (Nat.le_of_ble_eq_true rfl)) dX2_takeWord_55 ⟨(Nat.le_of_ble_eq_true rfl), (Nat.le_of_ble_eq_true rfl)⟩) hH hS hA rfl rfl (fun r_87 _ H locs hw_88 hH hS => ?_)
            obtain ⟨hr_90, he_91⟩ := hw_88
            have hr_90 : (-1 : Int) ≤ r_87.toInt ∧ r_87.toInt ≤ 65535 := hr_90
            rw [show j1 2 = i 2 from (hfr_j1 2 (by omega))] at he_91
            refine lv_bipush (v := 92) hx hb dX2_takeWord_58 (by decide) ?_
            refine lv_icmp_ne (tgt := 66) hx hb dX2_takeWord_60 (by decide) (fun c_92 => ?_) (fun c_92 => ?_)
            · skip
              have h_93 := s_ne (rfl : r_87.toInt = _) (show (92 : Int32).toInt = 92 from rfl) c_92
              refine lv_iload_n hx hb dX2_takeWord_66 rfl (lv_at hl 0 rfl) ?_
              refine lv_aload_n hx hb dX2_takeWord_67 rfl (lv_at hl 2 rfl) ?_
              refine h_geti (ci := 3) (C := RX3) (F := TX3) (N := 2) hx hb hts in3 hown hK hH (by decide) (rfl : kd 1 = 3) (by decide) rfl 1 (by decide) wd0 (fun _ h9 => h9) (by decide) rfl dX2_takeWord_68 ?_
              refine sj_i (y := (i 1 1)) (congrFun (hfr_j1 1 (by omega)) _) ?_
              refine lv_icmp_lt (tgt := 76) hx hb dX2_takeWord_71 (by decide) (fun c_94 => ?_) (fun c_94 => ?_)
              · skip
                have h_95 := s_lt (rfl : f.toInt = _) (rfl : (i 1 1).toInt = _) c_94
                refine lv_aload_n hx hb dX2_takeWord_76 rfl (lv_at hl 1 rfl) ?_
                refine lv_aload_n hx hb dX2_takeWord_77 rfl (lv_at hl 2 rfl) ?_
                refine h_getr (ci := 3) (C := RX3) (F := TX3) (N := 2) hx hb hts in3 hown hK hH (by decide) (rfl : kd 1 = 3) (by decide) rfl 0 (by decide) wd2 (fun _ h9 => h9) (by decide) rfl (t := 2) (hR 1 0 rfl) (by decide) dX2_takeWord_78 ?_
                refine lv_iload_n hx hb dX2_takeWord_81 rfl (lv_at hl 0 rfl) ?_
                refine h_cald hx hb hK hH (by decide) (rfl : kd 2 = 14) (s_vin (N := 480) (rfl : f.toInt = _) (rfl : ln 2 = 480) (by omega) (by omega)) dX2_takeWord_82 ?_
                have ek_96 : f.toNatClampNeg = (f.toInt).toNat := (s_cl (show f.toInt = f.toInt by omega))
                refine sj_i (y := (i 2 (f.toInt).toNat)) (by rw [ek_96]; exact (congrFun (hfr_j1 2 (by omega)) _)) ?_
                refine x_callv (va_runV (As := [.int (i 2 (f.toInt).toNat)]) (rest := []) ⟨hx, hb, hml, hown, hts⟩ (k_addChar l D g ka ad j1 r L d j (i 2 (f.toInt).toNat) hO_j1 hR H.size (by first | omega | decide) (by first | omega | decide) (by first | omega | decide)) (cwV 1 hts gX2_takeWord_X2_addChar rfl rfl rfl (by decide +kernel) ⟨(Nat.le_of_ble_eq_true rfl), (Nat.le_of_ble_eq_true rfl)⟩) (x_preV (q := (RX2, TX2, 11)) hH hK (q_obj (lt_nK (by omega)) (kd_expr (t := 0) hj (by decide)) (by decide)) rfl gxb (gxw hE hS (x_F hH hS hA))) rfl rfl hl.1 rfl (lv_room (Nat.le_of_ble_eq_true rfl)) dX2_takeWord_83 ⟨(Nat.le_of_ble_eq_true rfl), (Nat.le_of_ble_eq_true rfl)⟩) hH hS hA rfl rfl (fun im_99 H locs hw_98 hH hS => ?_)
                have hH : sj_H D A (hwc g ka im_99 r L d) H := hH
                obtain ⟨hO_101, hfr_100, he_102, hx2_103⟩ := hw_98
                have hm_104 := hx2_103 hi_lp_1_11
                obtain ⟨z_105, ez_105, hz_105⟩ := s_add (rfl : f.toInt = _) (show (1 : Int32).toInt = 1 from rfl) (by omega) (by omega)
                refine lv_iinc (v := z_105) (lv' := [(3, .int z_105), (0, .ref (g (240 + 9 * j))), (1, .ref (g 1)), (2, .int x)]) hx hb dX2_takeWord_86 hl (k := 0) rfl ez_105 (by decide) rfl (fun ls hl => ?_)
                refine lv_goto (tgt := 2) hx hb dX2_takeWord_89 (by decide) ?_
                exact ih_lp_1 z_105 _ _ _ ls (by omega) (by omega) (hi_lp_1_0.trans (wd_step (a2 := (z_105 : Int32).toInt) (n2 := kC im_99 j - kB im_99 j) (by omega) (by omega) (by omega) (by omega) (by omega))) (by omega) (by omega) (by omega) (by omega) (by omega) (by omega) (by omega) (by omega) (by omega) (by omega) hm_104 hO_101 (fun a ha => ((hfr_100 a (by omega)).trans (hfr_j1 a (by omega)))) (lv_sub hl [0, 1, 2, 3] rfl) hH hS
              · skip
                have h_106 := s_nlt (rfl : f.toInt = _) (rfl : (i 1 1).toInt = _) c_94
                refine lv_iconst (v := (-1)) hx hb dX2_takeWord_74 (by decide) ?_
                have hlv_107 : ((-1) : Int32).toInt = -1 := rfl
                have hq6_108 : (j1 (240 + 9 * j) 6).toInt = ((j1 (240 + 9 * j) 6) : Int32).toInt := congrArg Int32.toInt (rfl)
                have hV_109 : (((-1) : Int32).toInt = -1 ∧ wdL (lnL (i 2) x.toInt (i 1 1).toInt) 0 = none) ∨ (x.toInt < ((-1) : Int32).toInt ∧ wdL (lnL (i 2) x.toInt (i 1 1).toInt) 0 = some (lnL (i 2) ((-1) : Int32).toInt (i 1 1).toInt) ∧ (j1 (240 + 9 * j) 6).toInt = (i (240 + 9 * j) 6).toInt) := (Or.inl ⟨by omega, hi_lp_1_0.trans (wd_bad (by omega) (by omega))⟩)
                exact sj_zret hx hb hr hlocks rfl hS j1 ⟨hO_j1, (fun a ha => (hfr_j1 a (by omega))), ⟨by omega, Or.inl (by omega)⟩, hV_109⟩ hH (sj_Knil hK) (Nat.le_of_ble_eq_true rfl) (Nat.le_of_ble_eq_true rfl) dX2_takeWord_75
            · skip
              have h_110 := s_eq (rfl : r_87.toInt = _) (show (92 : Int32).toInt = 92 from rfl) c_92
              obtain ⟨z_111, ez_111, hz_111⟩ := s_add (rfl : f.toInt = _) (show (1 : Int32).toInt = 1 from rfl) (by omega) (by omega)
              refine lv_iinc (v := z_111) (lv' := [(3, .int z_111), (0, .ref (g (240 + 9 * j))), (1, .ref (g 1)), (2, .int x)]) hx hb dX2_takeWord_63 hl (k := 0) rfl ez_111 (by decide) rfl (fun ls hl => ?_)
              refine lv_iload_n hx hb dX2_takeWord_66 rfl (lv_at hl 0 rfl) ?_
              refine lv_aload_n hx hb dX2_takeWord_67 rfl (lv_at hl 2 rfl) ?_
              refine h_geti (ci := 3) (C := RX3) (F := TX3) (N := 2) hx hb hts in3 hown hK hH (by decide) (rfl : kd 1 = 3) (by decide) rfl 1 (by decide) wd0 (fun _ h9 => h9) (by decide) rfl dX2_takeWord_68 ?_
              refine sj_i (y := (i 1 1)) (congrFun (hfr_j1 1 (by omega)) _) ?_
              refine lv_icmp_lt (tgt := 76) hx hb dX2_takeWord_71 (by decide) (fun c_112 => ?_) (fun c_112 => ?_)
              · skip
                have h_113 := s_lt (rfl : z_111.toInt = _) (rfl : (i 1 1).toInt = _) c_112
                refine lv_aload_n hx hb dX2_takeWord_76 rfl (lv_at hl 1 rfl) ?_
                refine lv_aload_n hx hb dX2_takeWord_77 rfl (lv_at hl 2 rfl) ?_
                refine h_getr (ci := 3) (C := RX3) (F := TX3) (N := 2) hx hb hts in3 hown hK hH (by decide) (rfl : kd 1 = 3) (by decide) rfl 0 (by decide) wd2 (fun _ h9 => h9) (by decide) rfl (t := 2) (hR 1 0 rfl) (by decide) dX2_takeWord_78 ?_
                refine lv_iload_n hx hb dX2_takeWord_81 rfl (lv_at hl 0 rfl) ?_
                have bx_114 : (0 : Int) ≤ (i 2 (f.toInt + 1).toNat).toInt ∧ (i 2 (f.toInt + 1).toNat).toInt ≤ 65535 := hO 2 (f.toInt + 1).toNat
                refine h_cald hx hb hK hH (by decide) (rfl : kd 2 = 14) (s_vin (N := 480) (rfl : z_111.toInt = _) (rfl : ln 2 = 480) (by omega) (by omega)) dX2_takeWord_82 ?_
                have ek_115 : z_111.toNatClampNeg = (f.toInt + 1).toNat := (s_cl (show z_111.toInt = f.toInt + 1 by omega))
                refine sj_i (y := (i 2 (f.toInt + 1).toNat)) (by rw [ek_115]; exact (congrFun (hfr_j1 2 (by omega)) _)) ?_
                refine x_callv (va_runV (As := [.int (i 2 (f.toInt + 1).toNat)]) (rest := []) ⟨hx, hb, hml, hown, hts⟩ (k_addChar l D g ka ad j1 r L d j (i 2 (f.toInt + 1).toNat) hO_j1 hR H.size (by first | omega | decide) (by first | omega | decide) (by first | omega | decide)) (cwV 1 hts gX2_takeWord_X2_addChar rfl rfl rfl (by decide +kernel) ⟨(Nat.le_of_ble_eq_true rfl), (Nat.le_of_ble_eq_true rfl)⟩) (x_preV (q := (RX2, TX2, 11)) hH hK (q_obj (lt_nK (by omega)) (kd_expr (t := 0) hj (by decide)) (by decide)) rfl gxb (gxw hE hS (x_F hH hS hA))) rfl rfl hl.1 rfl (lv_room (Nat.le_of_ble_eq_true rfl)) dX2_takeWord_83 ⟨(Nat.le_of_ble_eq_true rfl), (Nat.le_of_ble_eq_true rfl)⟩) hH hS hA rfl rfl (fun im_118 H locs hw_117 hH hS => ?_)
                have hH : sj_H D A (hwc g ka im_118 r L d) H := hH
                obtain ⟨hO_120, hfr_119, he_121, hx2_122⟩ := hw_117
                have hm_123 := hx2_122 hi_lp_1_11
                obtain ⟨z_124, ez_124, hz_124⟩ := s_add (rfl : z_111.toInt = _) (show (1 : Int32).toInt = 1 from rfl) (by omega) (by omega)
                refine lv_iinc (v := z_124) (lv' := [(3, .int z_124), (0, .ref (g (240 + 9 * j))), (1, .ref (g 1)), (2, .int x)]) hx hb dX2_takeWord_86 hl (k := 0) rfl ez_124 (by decide) rfl (fun ls hl => ?_)
                refine lv_goto (tgt := 2) hx hb dX2_takeWord_89 (by decide) ?_
                exact ih_lp_1 z_124 _ _ _ ls (by omega) (by omega) (hi_lp_1_0.trans (wd_step (a2 := (z_124 : Int32).toInt) (n2 := kC im_118 j - kB im_118 j) (by omega) (by omega) (by omega) (by omega) (by omega))) (by omega) (by omega) (by omega) (by omega) (by omega) (by omega) (by omega) (by omega) (by omega) (by omega) hm_123 hO_120 (fun a ha => ((hfr_119 a (by omega)).trans (hfr_j1 a (by omega)))) (lv_sub hl [0, 1, 2, 3] rfl) hH hS
              · skip
                have h_125 := s_nlt (rfl : z_111.toInt = _) (rfl : (i 1 1).toInt = _) c_112
                refine lv_iconst (v := (-1)) hx hb dX2_takeWord_74 (by decide) ?_
                have hlv_126 : ((-1) : Int32).toInt = -1 := rfl
                have hq6_127 : (j1 (240 + 9 * j) 6).toInt = ((j1 (240 + 9 * j) 6) : Int32).toInt := congrArg Int32.toInt (rfl)
                have hV_128 : (((-1) : Int32).toInt = -1 ∧ wdL (lnL (i 2) x.toInt (i 1 1).toInt) 0 = none) ∨ (x.toInt < ((-1) : Int32).toInt ∧ wdL (lnL (i 2) x.toInt (i 1 1).toInt) 0 = some (lnL (i 2) ((-1) : Int32).toInt (i 1 1).toInt) ∧ (j1 (240 + 9 * j) 6).toInt = (i (240 + 9 * j) 6).toInt) := (Or.inl ⟨by omega, hi_lp_1_0.trans (wd_bad (by omega) (by omega))⟩)
                exact sj_zret hx hb hr hlocks rfl hS j1 ⟨hO_j1, (fun a ha => (hfr_j1 a (by omega))), ⟨by omega, Or.inl (by omega)⟩, hV_128⟩ hH (sj_Knil hK) (Nat.le_of_ble_eq_true rfl) (Nat.le_of_ble_eq_true rfl) dX2_takeWord_75
          · skip
            have h_129 := s_eq (rfl : r_79.toInt = _) (show (47 : Int32).toInt = 47 from rfl) c_84
            refine lv_aload_n hx hb dX2_takeWord_33 rfl (lv_at hl 1 rfl) ?_
            refine lv_aload_n hx hb dX2_takeWord_34 rfl (lv_at hl 1 rfl) ?_
            have bx_130 : (0 : Int) ≤ (j1 (240 + 9 * j) 2).toInt ∧ (j1 (240 + 9 * j) 2).toInt ≤ 61 := by have h9 := hO_j1 (240 + 9 * j) 2; rw [bx_expr0 hj 2] at h9; exact h9
            refine h_geti (ci := 2) (C := RX2) (F := TX2) (N := 11) hx hb hts in2 hown hK hH (lt_nK (by omega)) (kd_expr (t := 0) hj (by decide)) (by decide) rfl 2 (by decide) wd1 (fun _ h9 => h9) (by decide) rfl dX2_takeWord_35 ?_
            refine x_calli (va_runV (As := [.int (j1 (240 + 9 * j) 2)]) (rest := []) ⟨hx, hb, hml, hown, hts⟩ (k_choiceLength l D g ka ad j1 r L d j (j1 (240 + 9 * j) 2) hO_j1 hR H.size (by first | omega | decide) (by first | omega | decide) (by first | omega | decide)) (cwV 1 hts gX2_takeWord_X2_choiceLength rfl rfl rfl (by decide +kernel) ⟨(Nat.le_of_ble_eq_true rfl), (Nat.le_of_ble_eq_true rfl)⟩) (x_preV (q := (RX2, TX2, 11)) hH hK (q_obj (lt_nK (by omega)) (kd_expr (t := 0) hj (by decide)) (by decide)) rfl gxb (gxw hE hS (x_F hH hS hA))) rfl rfl hl.1 rfl (lv_room (Nat.le_of_ble_eq_true rfl)) dX2_takeWord_38 ⟨(Nat.le_of_ble_eq_true rfl), (Nat.le_of_ble_eq_true rfl)⟩) hH hS hA rfl rfl (fun r_131 _ H locs hw_132 hH hS => ?_)
            obtain ⟨hr_134, he_135⟩ := hw_132
            have hr_134 : (-60 : Int) ≤ r_131.toInt ∧ r_131.toInt ≤ 60 := hr_134
            have hr_131C : kC j1 j = (j1 (240 + 9 * j + 2) ((j1 (240 + 9 * j) 2).toInt + 1).toNat).toInt := rfl
            have hr_131B : kB j1 j = (j1 (240 + 9 * j + 2) ((j1 (240 + 9 * j) 2).toInt).toNat).toInt := rfl
            refine lv_if_ne (tgt := 46) hx hb dX2_takeWord_41 (by decide) (fun c_136 => ?_) (fun c_136 => ?_)
            · skip
              have h_137 := s_ne (rfl : r_131.toInt = _) (show (0 : Int32).toInt = 0 from rfl) c_136
              refine lv_aload_n hx hb dX2_takeWord_46 rfl (lv_at hl 1 rfl) ?_
              refine x_callv (va_runV (As := []) (rest := []) ⟨hx, hb, hml, hown, hts⟩ (k_endChoice l D g ka ad j1 r L d j hO_j1 hR H.size (by first | omega | decide) (by first | omega | decide)) (cwV 0 hts gX2_takeWord_X2_endChoice rfl rfl rfl (by decide +kernel) ⟨(Nat.le_of_ble_eq_true rfl), (Nat.le_of_ble_eq_true rfl)⟩) (x_preV (q := (RX2, TX2, 11)) hH hK (q_obj (lt_nK (by omega)) (kd_expr (t := 0) hj (by decide)) (by decide)) rfl gxb (gxw hE hS (x_F hH hS hA))) rfl rfl hl.1 rfl (lv_room (Nat.le_of_ble_eq_true rfl)) dX2_takeWord_47 ⟨(Nat.le_of_ble_eq_true rfl), (Nat.le_of_ble_eq_true rfl)⟩) hH hS hA rfl rfl (fun im_140 H locs hw_139 hH hS => ?_)
              have hH : sj_H D A (hwc g ka im_140 r L d) H := hH
              obtain ⟨hO_142, hfr_141, he_143, hx2_144⟩ := hw_139
              have hm_145 := hx2_144 hi_lp_1_11 (by omega)
              refine lv_goto (tgt := 86) hx hb dX2_takeWord_50 (by decide) ?_
              obtain ⟨z_146, ez_146, hz_146⟩ := s_add (rfl : f.toInt = _) (show (1 : Int32).toInt = 1 from rfl) (by omega) (by omega)
              refine lv_iinc (v := z_146) (lv' := [(3, .int z_146), (0, .ref (g (240 + 9 * j))), (1, .ref (g 1)), (2, .int x)]) hx hb dX2_takeWord_86 hl (k := 0) rfl ez_146 (by decide) rfl (fun ls hl => ?_)
              refine lv_goto (tgt := 2) hx hb dX2_takeWord_89 (by decide) ?_
              exact ih_lp_1 z_146 _ _ _ ls (by omega) (by omega) (hi_lp_1_0.trans (wd_step (a2 := (z_146 : Int32).toInt) (n2 := kC im_140 j - kB im_140 j) (by omega) (by omega) (by omega) (by omega) (by omega))) (by omega) (by omega) (by omega) (by omega) (by omega) (by omega) (by omega) (by omega) (by omega) (by omega) hm_145 hO_142 (fun a ha => ((hfr_141 a (by omega)).trans (hfr_j1 a (by omega)))) (lv_sub hl [0, 1, 2, 3] rfl) hH hS
            · skip
              have h_147 := s_eq (rfl : r_131.toInt = _) (show (0 : Int32).toInt = 0 from rfl) c_136
              refine lv_iconst (v := (-1)) hx hb dX2_takeWord_44 (by decide) ?_
              have hlv_148 : ((-1) : Int32).toInt = -1 := rfl
              have hq6_149 : (j1 (240 + 9 * j) 6).toInt = ((j1 (240 + 9 * j) 6) : Int32).toInt := congrArg Int32.toInt (rfl)
              have hV_150 : (((-1) : Int32).toInt = -1 ∧ wdL (lnL (i 2) x.toInt (i 1 1).toInt) 0 = none) ∨ (x.toInt < ((-1) : Int32).toInt ∧ wdL (lnL (i 2) x.toInt (i 1 1).toInt) 0 = some (lnL (i 2) ((-1) : Int32).toInt (i 1 1).toInt) ∧ (j1 (240 + 9 * j) 6).toInt = (i (240 + 9 * j) 6).toInt) := (Or.inl ⟨by omega, hi_lp_1_0.trans (wd_bad (by omega) (by omega))⟩)
              exact sj_zret hx hb hr hlocks rfl hS j1 ⟨hO_j1, (fun a ha => (hfr_j1 a (by omega))), ⟨by omega, Or.inl (by omega)⟩, hV_150⟩ hH (sj_Knil hK) (Nat.le_of_ble_eq_true rfl) (Nat.le_of_ble_eq_true rfl) dX2_takeWord_45
  exact lp_1 _ x _ _ _ ls (Nat.lt_succ_self _) (by omega) (by rw [show kC i j - kB i j = 0 by omega]) (by omega) (by omega) (by omega) (by omega) (by omega) (by omega) (by omega) (by omega) (by omega) (by omega) hT7 hO (fun a ha => rfl) (lv_sub hl [0, 1, 2, 3] rfl) hH hS
set_option maxHeartbeats 2000000 in
set_option maxRecDepth 100000 in
theorem kv_takeParam (l : Launch) (D : va_G) (g : Nat → Nat) (ka : Nat → ClassId) (ad : Nat → Nat) (i : Nat → Nat → Int32) (r : Nat → Nat → Nat) (L : Nat → Nat → Int64) (d : Nat → Nat → UInt64) (j : Nat) (x : Int32) (hO : OkI i) (hR : RS r) (sz : Nat) (hj : j < 13) (hl0 : (i 1 1).toInt ≤ 60) (hx0 : 0 ≤ x.toInt) (hx1 : x.toInt < (i 1 1).toInt) (hTx : exT i j x.toInt) : Met l yX2_takeParameter wsX2_takeParameter ({ frames := 4, cells := 0, slots := 0, locals := 96 }) (va_Pc [.ref (g (240 + 9 * j)), .ref (g 1), .int x] (sj_B D (hwc g ka i r L d) (hT ka) sz (gx ad (va_A (hwc g ka i r L d) sz)))) (sj_Qi (S := (Nat → Nat → Int32)) D (fun v u => OkI u ∧ (∀ a, ¬ (a = 240 + 9 * j ∨ a = 240 + 9 * j + 1 ∨ a = 240 + 9 * j + 2 ∨ a = 240 + 9 * j + 3 ∨ a = 240 + 9 * j + 4 ∨ a = 240 + 9 * j + 8) → u a = i a) ∧ ((u (240 + 9 * j + 2) 0).toInt = 0 ∧ (v.toInt = -1 ∨ (x.toInt < v.toInt ∧ v.toInt ≤ (i 1 1).toInt ∧ exT u j v.toInt))) ∧ ((v.toInt = -1 ∧ (paL (lnL (i 2) (x.toInt + 1) (i 1 1).toInt) = none ∨ (i (240 + 9 * j) 6).toInt = 6)) ∨ (x.toInt < v.toInt ∧ paL (lnL (i 2) (x.toInt + 1) (i 1 1).toInt) = some (lnL (i 2) v.toInt (i 1 1).toInt) ∧ (u (240 + 9 * j) 6).toInt = (i (240 + 9 * j) 6).toInt + 1))) (fun u => hwc g ka u r L d) (fun _ => []) (va_A (hwc g ka i r L d) sz)) 0 0 (va_A (hwc g ka i r L d) sz) := by
  refine x_met (Ex := gx ad) (cc := cX2_takeParameter) (maxL := 5) (ret := (some .int)) (by decide) rfl (Nat.le_of_ble_eq_true rfl) ?_
  intro p e s m below meth c A ls hx hb hr hml hts hown hlocks hA hS hH hK hE hl
  have hown : s.vm.findClass RX2 = some m.cls := hown
  have in2 : ∀ w ∈ wsX20, w ∈ wsX2_takeParameter := (fun _ h => (List.mem_cons_of_mem _ (List.mem_append_left _ (List.mem_append_right _ h))))
  have wd0 := hts (.fieldLink RX2 45 "StoryDesk$Expression" "parameters" "I") (List.mem_cons_of_mem _ (List.mem_append_left _ (List.mem_append_left _ (List.mem_append_left _ lm0))))
  have wd1 := hts (.fieldLink RX2 35 "StoryDesk$Expression" "argumentKinds" "[C") (List.mem_cons_of_mem _ (List.mem_append_left _ (List.mem_append_left _ (List.mem_append_left _ lm1))))
  have hl : lv_has ls 5 [(0, .ref (g (240 + 9 * j))), (1, .ref (g 1)), (2, .int x)] := hl
  have hK : va_K D vwCl (hT ka) s := hK
  obtain ⟨hT1, hT2, hT3, hT4, hT5, hT6, hT7⟩ := hTx
  refine lv_aload_n hx hb dX2_takeParameter_0 rfl (lv_at hl 1 rfl) ?_
  refine lv_iload_n hx hb dX2_takeParameter_1 rfl (lv_at hl 2 rfl) ?_
  refine lv_iconst (v := 1) hx hb dX2_takeParameter_2 (by decide) ?_
  refine lv_iadd hx hb dX2_takeParameter_3 ?_
  obtain ⟨z_1, ez_1, hz_1⟩ := s_add (rfl : x.toInt = _) (show (1 : Int32).toInt = 1 from rfl) (by omega) (by omega)
  refine sj_i ez_1 ?_
  refine x_calli (va_runV (As := [.int z_1]) (rest := []) ⟨hx, hb, hml, hown, hts⟩ (k_at_text l D g ka ad i r L d z_1 hO hR s.heap.size ) (cwV 1 hts gX2_takeParameter_X3_at rfl rfl rfl (by decide +kernel) ⟨(Nat.le_of_ble_eq_true rfl), (Nat.le_of_ble_eq_true rfl)⟩) (x_preV (q := (RX3, TX3, 2)) hH hK (q_obj (by decide) (rfl : kd 1 = 3) (by decide)) rfl gxb (gxw hE hS (x_F hH hS hA))) rfl rfl hl.1 rfl (lv_room (Nat.le_of_ble_eq_true rfl)) dX2_takeParameter_4 ⟨(Nat.le_of_ble_eq_true rfl), (Nat.le_of_ble_eq_true rfl)⟩) hH hS hA rfl rfl (fun r_2 _ H locs hw_3 hH hS => ?_)
  obtain ⟨hr_5, he_6⟩ := hw_3
  have hr_5 : (-1 : Int) ≤ r_2.toInt ∧ r_2.toInt ≤ 65535 := hr_5
  rw [show z_1.toInt.toNat = (x.toInt + 1).toNat by omega] at he_6
  refine lv_istore_n (lv' := [(3, .int r_2), (0, .ref (g (240 + 9 * j))), (1, .ref (g 1)), (2, .int x)]) hx hb dX2_takeParameter_7 rfl hl (by decide) rfl (fun ls hl => ?_)
  refine lv_iload_n hx hb dX2_takeParameter_8 rfl (lv_at hl 0 rfl) ?_
  refine lv_if_lt (tgt := 26) hx hb dX2_takeParameter_9 (by decide) (fun c_7 => ?_) (fun c_7 => ?_)
  · skip
    have h_8 := s_lt (rfl : r_2.toInt = _) (show (0 : Int32).toInt = 0 from rfl) c_7
    refine lv_iconst (v := 0) hx hb dX2_takeParameter_26 (by decide) ?_
    refine lv_istore (lv' := [(4, .int 0), (3, .int r_2), (0, .ref (g (240 + 9 * j))), (1, .ref (g 1)), (2, .int x)]) hx hb dX2_takeParameter_27 hl (by decide) rfl (fun ls hl => ?_)
    refine lv_iload hx hb dX2_takeParameter_29 (lv_at hl 0 rfl) ?_
    refine lv_if_eq (tgt := 55) hx hb dX2_takeParameter_31 (by decide) (fun _ => ?_) (fun h => absurd (by decide) h)
    refine lv_iconst (v := (-1)) hx hb dX2_takeParameter_55 (by decide) ?_
    have hlv_9 : ((-1) : Int32).toInt = -1 := rfl
    have hq6_10 : (i (240 + 9 * j) 6).toInt = ((i (240 + 9 * j) 6) : Int32).toInt := congrArg Int32.toInt (rfl)
    have hV_11 : (((-1) : Int32).toInt = -1 ∧ (paL (lnL (i 2) (x.toInt + 1) (i 1 1).toInt) = none ∨ (i (240 + 9 * j) 6).toInt = 6)) ∨ (x.toInt < ((-1) : Int32).toInt ∧ paL (lnL (i 2) (x.toInt + 1) (i 1 1).toInt) = some (lnL (i 2) ((-1) : Int32).toInt (i 1 1).toInt) ∧ (i (240 + 9 * j) 6).toInt = (i (240 + 9 * j) 6).toInt + 1) := (Or.inl ⟨by omega, by first | exact Or.inl (pa_no (by omega) (by omega)) | exact Or.inl (pa_no (by omega) (by rw [show x.toInt + 1 + 1 = x.toInt + 2 by omega]; omega)) | exact Or.inr (by omega)⟩)
    exact sj_zret hx hb hr hlocks rfl hS i ⟨hO, (fun a ha => rfl), ⟨by omega, Or.inl (by omega)⟩, hV_11⟩ hH (sj_Knil hK) (Nat.le_of_ble_eq_true rfl) (Nat.le_of_ble_eq_true rfl) dX2_takeParameter_56
  · skip
    have h_12 := s_nlt (rfl : r_2.toInt = _) (show (0 : Int32).toInt = 0 from rfl) c_7
    refine va_ldcS hx hb hown hE.2.1.1 dX2_takeParameter_12 ?_
    refine lv_iload_n hx hb dX2_takeParameter_14 rfl (lv_at hl 0 rfl) ?_
    refine lv_i2c hx hb dX2_takeParameter_15 rfl ?_
    refine lv_topi (fun z_13 ez_13 => ?_)
    have hz_13 := congrArg Int32.toInt (s_i2cE ez_13 (by omega) (by omega))
    refine x_calli (va_runV (As := [.int z_13]) (rest := []) ⟨hx, hb, hml, hown, hts⟩ (k_indexOf_0 l D g ka ad i r L d z_13 hO hR H.size ) (cwV 1 hts gX2_takeParameter_J0_indexOf_0f7a4 rfl rfl rfl (by decide +kernel) ⟨(Nat.le_of_ble_eq_true rfl), (Nat.le_of_ble_eq_true rfl)⟩) (x_preS2 (n := 0) hE.1.1 (by decide) hH hK hS gxb (gxw hE hS (x_F hH hS hA))) rfl rfl hl.1 rfl (lv_room (Nat.le_of_ble_eq_true rfl)) dX2_takeParameter_16 ⟨(Nat.le_of_ble_eq_true rfl), (Nat.le_of_ble_eq_true rfl)⟩) hH hS hA rfl rfl (fun r_14 _ H locs hw_15 hH hS => ?_)
    obtain ⟨hr_17, he_18⟩ := hw_15
    have hr_17 : (-1 : Int) ≤ r_14.toInt ∧ r_14.toInt ≤ 4 := hr_17
    refine lv_if_lt (tgt := 26) hx hb dX2_takeParameter_19 (by decide) (fun c_19 => ?_) (fun c_19 => ?_)
    · skip
      have h_20 := s_lt (rfl : r_14.toInt = _) (show (0 : Int32).toInt = 0 from rfl) c_19
      refine lv_iconst (v := 0) hx hb dX2_takeParameter_26 (by decide) ?_
      refine lv_istore (lv' := [(4, .int 0), (3, .int r_2), (0, .ref (g (240 + 9 * j))), (1, .ref (g 1)), (2, .int x)]) hx hb dX2_takeParameter_27 hl (by decide) rfl (fun ls hl => ?_)
      refine lv_iload hx hb dX2_takeParameter_29 (lv_at hl 0 rfl) ?_
      refine lv_if_eq (tgt := 55) hx hb dX2_takeParameter_31 (by decide) (fun _ => ?_) (fun h => absurd (by decide) h)
      refine lv_iconst (v := (-1)) hx hb dX2_takeParameter_55 (by decide) ?_
      have hlv_21 : ((-1) : Int32).toInt = -1 := rfl
      have hq6_22 : (i (240 + 9 * j) 6).toInt = ((i (240 + 9 * j) 6) : Int32).toInt := congrArg Int32.toInt (rfl)
      have hV_23 : (((-1) : Int32).toInt = -1 ∧ (paL (lnL (i 2) (x.toInt + 1) (i 1 1).toInt) = none ∨ (i (240 + 9 * j) 6).toInt = 6)) ∨ (x.toInt < ((-1) : Int32).toInt ∧ paL (lnL (i 2) (x.toInt + 1) (i 1 1).toInt) = some (lnL (i 2) ((-1) : Int32).toInt (i 1 1).toInt) ∧ (i (240 + 9 * j) 6).toInt = (i (240 + 9 * j) 6).toInt + 1) := (Or.inl ⟨by omega, by first | exact Or.inl (pa_no (by omega) (by omega)) | exact Or.inl (pa_no (by omega) (by rw [show x.toInt + 1 + 1 = x.toInt + 2 by omega]; omega)) | exact Or.inr (by omega)⟩)
      exact sj_zret hx hb hr hlocks rfl hS i ⟨hO, (fun a ha => rfl), ⟨by omega, Or.inl (by omega)⟩, hV_23⟩ hH (sj_Knil hK) (Nat.le_of_ble_eq_true rfl) (Nat.le_of_ble_eq_true rfl) dX2_takeParameter_56
    · skip
      have h_24 := s_nlt (rfl : r_14.toInt = _) (show (0 : Int32).toInt = 0 from rfl) c_19
      refine lv_iconst (v := 1) hx hb dX2_takeParameter_22 (by decide) ?_
      refine lv_goto (tgt := 27) hx hb dX2_takeParameter_23 (by decide) ?_
      refine lv_istore (lv' := [(4, .int 1), (3, .int r_2), (0, .ref (g (240 + 9 * j))), (1, .ref (g 1)), (2, .int x)]) hx hb dX2_takeParameter_27 hl (by decide) rfl (fun ls hl => ?_)
      refine lv_iload hx hb dX2_takeParameter_29 (lv_at hl 0 rfl) ?_
      refine lv_if_eq (tgt := 55) hx hb dX2_takeParameter_31 (by decide) (fun h => absurd h (by decide)) (fun _ => ?_)
      refine lv_aload_n hx hb dX2_takeParameter_34 rfl (lv_at hl 3 rfl) ?_
      refine lv_iload_n hx hb dX2_takeParameter_35 rfl (lv_at hl 4 rfl) ?_
      refine lv_iconst (v := 2) hx hb dX2_takeParameter_36 (by decide) ?_
      refine lv_iadd hx hb dX2_takeParameter_37 ?_
      obtain ⟨z_25, ez_25, hz_25⟩ := s_add (rfl : x.toInt = _) (show (2 : Int32).toInt = 2 from rfl) (by omega) (by omega)
      refine sj_i ez_25 ?_
      refine x_calli (va_runV (As := [.int z_25]) (rest := []) ⟨hx, hb, hml, hown, hts⟩ (k_at_text l D g ka ad i r L d z_25 hO hR H.size ) (cwV 1 hts gX2_takeParameter_X3_at rfl rfl rfl (by decide +kernel) ⟨(Nat.le_of_ble_eq_true rfl), (Nat.le_of_ble_eq_true rfl)⟩) (x_preV (q := (RX3, TX3, 2)) hH hK (q_obj (by decide) (rfl : kd 1 = 3) (by decide)) rfl gxb (gxw hE hS (x_F hH hS hA))) rfl rfl hl.1 rfl (lv_room (Nat.le_of_ble_eq_true rfl)) dX2_takeParameter_38 ⟨(Nat.le_of_ble_eq_true rfl), (Nat.le_of_ble_eq_true rfl)⟩) hH hS hA rfl rfl (fun r_26 _ H locs hw_27 hH hS => ?_)
      obtain ⟨hr_29, he_30⟩ := hw_27
      have hr_29 : (-1 : Int) ≤ r_26.toInt ∧ r_26.toInt ≤ 65535 := hr_29
      rw [show z_25.toInt.toNat = (x.toInt + 2).toNat by omega] at he_30
      refine lv_bipush (v := 125) hx hb dX2_takeParameter_41 (by decide) ?_
      refine lv_icmp_ne (tgt := 55) hx hb dX2_takeParameter_43 (by decide) (fun c_31 => ?_) (fun c_31 => ?_)
      · skip
        have h_32 := s_ne (rfl : r_26.toInt = _) (show (125 : Int32).toInt = 125 from rfl) c_31
        refine lv_iconst (v := (-1)) hx hb dX2_takeParameter_55 (by decide) ?_
        have hlv_33 : ((-1) : Int32).toInt = -1 := rfl
        have hq6_34 : (i (240 + 9 * j) 6).toInt = ((i (240 + 9 * j) 6) : Int32).toInt := congrArg Int32.toInt (rfl)
        have hV_35 : (((-1) : Int32).toInt = -1 ∧ (paL (lnL (i 2) (x.toInt + 1) (i 1 1).toInt) = none ∨ (i (240 + 9 * j) 6).toInt = 6)) ∨ (x.toInt < ((-1) : Int32).toInt ∧ paL (lnL (i 2) (x.toInt + 1) (i 1 1).toInt) = some (lnL (i 2) ((-1) : Int32).toInt (i 1 1).toInt) ∧ (i (240 + 9 * j) 6).toInt = (i (240 + 9 * j) 6).toInt + 1) := (Or.inl ⟨by omega, by first | exact Or.inl (pa_no (by omega) (by omega)) | exact Or.inl (pa_no (by omega) (by rw [show x.toInt + 1 + 1 = x.toInt + 2 by omega]; omega)) | exact Or.inr (by omega)⟩)
        exact sj_zret hx hb hr hlocks rfl hS i ⟨hO, (fun a ha => rfl), ⟨by omega, Or.inl (by omega)⟩, hV_35⟩ hH (sj_Knil hK) (Nat.le_of_ble_eq_true rfl) (Nat.le_of_ble_eq_true rfl) dX2_takeParameter_56
      · skip
        have h_36 := s_eq (rfl : r_26.toInt = _) (show (125 : Int32).toInt = 125 from rfl) c_31
        refine lv_aload_n hx hb dX2_takeParameter_46 rfl (lv_at hl 2 rfl) ?_
        have bx_37 : (0 : Int) ≤ (i (240 + 9 * j) 6).toInt ∧ (i (240 + 9 * j) 6).toInt ≤ 6 := by have h9 := hO (240 + 9 * j) 6; rw [bx_expr0 hj 6] at h9; exact h9
        refine h_geti (ci := 2) (C := RX2) (F := TX2) (N := 11) hx hb hts in2 hown hK hH (lt_nK (by omega)) (kd_expr (t := 0) hj (by decide)) (by decide) rfl 6 (by decide) wd0 (fun _ h9 => h9) (by decide) rfl dX2_takeParameter_47 ?_
        refine lv_bipush (v := 6) hx hb dX2_takeParameter_50 (by decide) ?_
        refine lv_icmp_lt (tgt := 57) hx hb dX2_takeParameter_52 (by decide) (fun c_38 => ?_) (fun c_38 => ?_)
        · skip
          have h_39 := s_lt (rfl : (i (240 + 9 * j) 6).toInt = _) (show (6 : Int32).toInt = 6 from rfl) c_38
          refine lv_aload_n hx hb dX2_takeParameter_57 rfl (lv_at hl 2 rfl) ?_
          refine h_getr (ci := 2) (C := RX2) (F := TX2) (N := 11) hx hb hts in2 hown hK hH (lt_nK (by omega)) (kd_expr (t := 0) hj (by decide)) (by decide) rfl 10 (by decide) wd1 (fun _ h9 => h9) (by decide) rfl (t := (240 + 9 * j + 8)) ((hR _ _ (by unfold dyn; simp <;> omega)).trans (sr_expr (by omega) (by omega))) (lt_nK (by omega)) dX2_takeParameter_58 ?_
          refine lv_aload_n hx hb dX2_takeParameter_61 rfl (lv_at hl 2 rfl) ?_
          refine h_geti (ci := 2) (C := RX2) (F := TX2) (N := 11) hx hb hts in2 hown hK hH (lt_nK (by omega)) (kd_expr (t := 0) hj (by decide)) (by decide) rfl 6 (by decide) wd0 (fun _ h9 => h9) (by decide) rfl dX2_takeParameter_62 ?_
          refine lv_iload_n hx hb dX2_takeParameter_65 rfl (lv_at hl 1 rfl) ?_
          refine lv_i2c hx hb dX2_takeParameter_66 rfl ?_
          refine lv_topi (fun z_40 ez_40 => ?_)
          have hz_40 := congrArg Int32.toInt (s_i2cE ez_40 (by omega) (by omega))
          obtain ⟨z_41, ez_41⟩ : ∃ z, vp_nar .char z_40 = z := ⟨_, rfl⟩
          have hz_41 : z_41.toInt = z_40.toInt := by rw [← ez_41, s_narc (rfl : z_40.toInt = _) (by omega) (by omega)] <;> exact (rfl : z_40.toInt = _)
          have hO_42 := okp hO (n := (240 + 9 * j + 8)) (k := ((i (240 + 9 * j) 6).toInt).toNat) (v := z_41) (by rw [bx_expr (t := 8) hj (by decide) (by decide) ((i (240 + 9 * j) 6).toInt).toNat]; exact (show (0 : Int) ≤ (z_41 : Int32).toInt ∧ (z_41 : Int32).toInt ≤ 65535 from ⟨by omega, by omega⟩))
          refine h_cast hx hb hK hH hS (lt_nK (by omega)) (kd_expr (t := 8) hj (by decide)) (s_vin (N := 6) (rfl : (i (240 + 9 * j) 6).toInt = _) (ln_expr (t := 8) hj (by decide)) (by omega) (by omega)) dX2_takeParameter_67 (fun H locs hH hS => ?_)
          rw [ez_41] at hH
          rw [s_cl (show (i (240 + 9 * j) 6).toInt = (i (240 + 9 * j) 6).toInt by omega)] at hH
          refine lv_aload_n hx hb dX2_takeParameter_68 rfl (lv_at hl 2 rfl) ?_
          refine lv_dup hx hb dX2_takeParameter_69 rfl ?_
          refine h_geti (ci := 2) (C := RX2) (F := TX2) (N := 11) hx hb hts in2 hown hK hH (lt_nK (by omega)) (kd_expr (t := 0) hj (by decide)) (by decide) rfl 6 (by decide) wd0 (fun _ h9 => h9) (by decide) rfl dX2_takeParameter_70 ?_
          refine sj_i (y := (i (240 + 9 * j) 6)) (congrFun (up2_n _ _ (by omega)) _) ?_
          refine lv_iconst (v := 1) hx hb dX2_takeParameter_73 (by decide) ?_
          refine lv_iadd hx hb dX2_takeParameter_74 ?_
          obtain ⟨z_43, ez_43, hz_43⟩ := s_add (rfl : (i (240 + 9 * j) 6).toInt = _) (show (1 : Int32).toInt = 1 from rfl) (by omega) (by omega)
          refine sj_i ez_43 ?_
          have hO_44 := okp hO_42 (n := (240 + 9 * j)) (k := 6) (v := z_43) (by rw [bx_expr0 hj 6]; exact (show (0 : Int) ≤ (z_43 : Int32).toInt ∧ (z_43 : Int32).toInt ≤ 6 from ⟨by omega, by omega⟩))
          refine h_puti (ty := .int) (ci := 2) (C := RX2) (F := TX2) (N := 11) hx hb hts in2 tyX2 tyX2_ok nmX2 hown hK hH hS (lt_nK (by omega)) (kd_expr (t := 0) hj (by decide)) (by decide) rfl 6 (by decide) wd0 (fun _ h9 => h9) rfl (by decide +kernel) rfl rfl (by decide) rfl dX2_takeParameter_75 (fun H locs hH hS => ?_)
          refine lv_aload_n hx hb dX2_takeParameter_78 rfl (lv_at hl 2 rfl) ?_
          refine lv_iload_n hx hb dX2_takeParameter_79 rfl (lv_at hl 1 rfl) ?_
          refine lv_i2c hx hb dX2_takeParameter_80 rfl ?_
          refine lv_topi (fun z_45 ez_45 => ?_)
          have hz_45 := congrArg Int32.toInt (s_i2cE ez_45 (by omega) (by omega))
          have hzz : (0 : Int32).toInt = 0 := rfl
          have hf2 : (up2 (up2 i (240 + 9 * j + 8) ((i (240 + 9 * j) 6).toInt).toNat z_41) (240 + 9 * j) 6 z_43) (240 + 9 * j) 2 = (i (240 + 9 * j) 2) := ((up2_k _ _ (by decide)).trans (congrFun (up2_n _ _ (by omega)) _))
          have hf2i := congrArg Int32.toInt hf2
          have hf5 : (up2 (up2 i (240 + 9 * j + 8) ((i (240 + 9 * j) 6).toInt).toNat z_41) (240 + 9 * j) 6 z_43) (240 + 9 * j) 5 = (i (240 + 9 * j) 5) := ((up2_k _ _ (by decide)).trans (congrFun (up2_n _ _ (by omega)) _))
          have hf5i := congrArg Int32.toInt hf5
          have hf6 : (up2 (up2 i (240 + 9 * j + 8) ((i (240 + 9 * j) 6).toInt).toNat z_41) (240 + 9 * j) 6 z_43) (240 + 9 * j) 6 = z_43 := (up2_at _ _ _ _)
          have hf6i := congrArg Int32.toInt hf6
          have hkC : kC (up2 (up2 i (240 + 9 * j + 8) ((i (240 + 9 * j) 6).toInt).toNat z_41) (240 + 9 * j) 6 z_43) j = ((i (240 + 9 * j + 2) ((i (240 + 9 * j) 2).toInt + 1).toNat) : Int32).toInt := by unfold kC; rw [hf2, show (((i (240 + 9 * j) 2) : Int32).toInt + 1).toNat = ((i (240 + 9 * j) 2).toInt + 1).toNat by omega]; exact congrArg Int32.toInt (((congrFun (up2_n _ _ (by omega)) _).trans (congrFun (up2_n _ _ (by omega)) _)))
          have hkB : kB (up2 (up2 i (240 + 9 * j + 8) ((i (240 + 9 * j) 6).toInt).toNat z_41) (240 + 9 * j) 6 z_43) j = ((i (240 + 9 * j + 2) ((i (240 + 9 * j) 2).toInt).toNat) : Int32).toInt := by unfold kB; rw [hf2, show (((i (240 + 9 * j) 2) : Int32).toInt).toNat = ((i (240 + 9 * j) 2).toInt).toNat by omega]; exact congrArg Int32.toInt (((congrFun (up2_n _ _ (by omega)) _).trans (congrFun (up2_n _ _ (by omega)) _)))
          have hiC : kC i j = (i (240 + 9 * j + 2) ((i (240 + 9 * j) 2).toInt + 1).toNat).toInt := rfl
          have hiB : kB i j = (i (240 + 9 * j + 2) ((i (240 + 9 * j) 2).toInt).toNat).toInt := rfl
          have hf0 : ((up2 (up2 i (240 + 9 * j + 8) ((i (240 + 9 * j) 6).toInt).toNat z_41) (240 + 9 * j) 6 z_43) (240 + 9 * j + 2) 0).toInt = ((i (240 + 9 * j + 2) 0) : Int32).toInt := congrArg Int32.toInt (((congrFun (up2_n _ _ (by omega)) _).trans (congrFun (up2_n _ _ (by omega)) _)))
          have hcn : cn (up2 (up2 i (240 + 9 * j + 8) ((i (240 + 9 * j) 6).toInt).toNat z_41) (240 + 9 * j) 6 z_43) j = cn i j := by unfold cn; rw [hf5, show (up2 (up2 i (240 + 9 * j + 8) ((i (240 + 9 * j) 6).toInt).toNat z_41) (240 + 9 * j) 6 z_43) (240 + 9 * j + 3) = i (240 + 9 * j + 3) from ((up2_n _ _ (by omega)).trans (up2_n _ _ (by omega)))]
          have hm_46 : mono (up2 (up2 i (240 + 9 * j + 8) ((i (240 + 9 * j) 6).toInt).toNat z_41) (240 + 9 * j) 6 z_43) j := mono_same hT7 ((up2_n _ _ (by omega)).trans (up2_n _ _ (by omega))) ((up2_n _ _ (by omega)).trans (up2_n _ _ (by omega))) (by omega) (by omega)
          refine x_callv (va_runV (As := [.int z_45]) (rest := []) ⟨hx, hb, hml, hown, hts⟩ (k_endElement l D g ka ad (up2 (up2 i (240 + 9 * j + 8) ((i (240 + 9 * j) 6).toInt).toNat z_41) (240 + 9 * j) 6 z_43) r L d j z_45 hO_44 hR H.size (by first | omega | decide) (by first | omega | decide) (by first | omega | decide) (by first | omega | decide)) (cwV 1 hts gX2_takeParameter_X2_endElement rfl rfl rfl (by decide +kernel) ⟨(Nat.le_of_ble_eq_true rfl), (Nat.le_of_ble_eq_true rfl)⟩) (x_preV (q := (RX2, TX2, 11)) hH hK (q_obj (lt_nK (by omega)) (kd_expr (t := 0) hj (by decide)) (by decide)) rfl gxb (gxw hE hS (x_F hH hS hA))) rfl rfl hl.1 rfl (lv_room (Nat.le_of_ble_eq_true rfl)) dX2_takeParameter_81 ⟨(Nat.le_of_ble_eq_true rfl), (Nat.le_of_ble_eq_true rfl)⟩) hH hS hA rfl rfl (fun im_49 H locs hw_48 hH hS => ?_)
          have hH : sj_H D A (hwc g ka im_49 r L d) H := hH
          obtain ⟨hO_51, hfr_50, he_52, hx2_53⟩ := hw_48
          have hm_54 := hx2_53 hm_46
          refine lv_iload_n hx hb dX2_takeParameter_84 rfl (lv_at hl 4 rfl) ?_
          refine lv_iconst (v := 3) hx hb dX2_takeParameter_85 (by decide) ?_
          refine lv_iadd hx hb dX2_takeParameter_86 ?_
          obtain ⟨z_55, ez_55, hz_55⟩ := s_add (rfl : x.toInt = _) (show (3 : Int32).toInt = 3 from rfl) (by omega) (by omega)
          refine sj_i ez_55 ?_
          have hq6_56 : (im_49 (240 + 9 * j) 6).toInt = ((im_49 (240 + 9 * j) 6) : Int32).toInt := congrArg Int32.toInt (rfl)
          have hV_57 : ((z_55 : Int32).toInt = -1 ∧ (paL (lnL (i 2) (x.toInt + 1) (i 1 1).toInt) = none ∨ (i (240 + 9 * j) 6).toInt = 6)) ∨ (x.toInt < (z_55 : Int32).toInt ∧ paL (lnL (i 2) (x.toInt + 1) (i 1 1).toInt) = some (lnL (i 2) (z_55 : Int32).toInt (i 1 1).toInt) ∧ (im_49 (240 + 9 * j) 6).toInt = (i (240 + 9 * j) 6).toInt + 1) := (Or.inr ⟨by omega, by rw [show (z_55 : Int32).toInt = x.toInt + 1 + 2 by omega]; exact pa_ok (by omega) (by omega) (by rw [show x.toInt + 1 + 1 = x.toInt + 2 by omega]; omega) (by omega), by omega⟩)
          exact sj_zret hx hb hr hlocks rfl hS im_49 ⟨hO_51, (fun a ha => ((hfr_50 a (by omega)).trans ((up2_n _ _ (by omega)).trans (up2_n _ _ (by omega))))), ⟨by omega, Or.inr ⟨by omega, by omega, ⟨by omega, by omega, by omega, by omega, by omega, by omega, hm_54⟩⟩⟩, hV_57⟩ hH (sj_Knil hK) (Nat.le_of_ble_eq_true rfl) (Nat.le_of_ble_eq_true rfl) dX2_takeParameter_87
        · skip
          have h_58 := s_nlt (rfl : (i (240 + 9 * j) 6).toInt = _) (show (6 : Int32).toInt = 6 from rfl) c_38
          refine lv_iconst (v := (-1)) hx hb dX2_takeParameter_55 (by decide) ?_
          have hlv_59 : ((-1) : Int32).toInt = -1 := rfl
          have hq6_60 : (i (240 + 9 * j) 6).toInt = ((i (240 + 9 * j) 6) : Int32).toInt := congrArg Int32.toInt (rfl)
          have hV_61 : (((-1) : Int32).toInt = -1 ∧ (paL (lnL (i 2) (x.toInt + 1) (i 1 1).toInt) = none ∨ (i (240 + 9 * j) 6).toInt = 6)) ∨ (x.toInt < ((-1) : Int32).toInt ∧ paL (lnL (i 2) (x.toInt + 1) (i 1 1).toInt) = some (lnL (i 2) ((-1) : Int32).toInt (i 1 1).toInt) ∧ (i (240 + 9 * j) 6).toInt = (i (240 + 9 * j) 6).toInt + 1) := (Or.inl ⟨by omega, by first | exact Or.inl (pa_no (by omega) (by omega)) | exact Or.inl (pa_no (by omega) (by rw [show x.toInt + 1 + 1 = x.toInt + 2 by omega]; omega)) | exact Or.inr (by omega)⟩)
          exact sj_zret hx hb hr hlocks rfl hS i ⟨hO, (fun a ha => rfl), ⟨by omega, Or.inl (by omega)⟩, hV_61⟩ hH (sj_Knil hK) (Nat.le_of_ble_eq_true rfl) (Nat.le_of_ble_eq_true rfl) dX2_takeParameter_56
set_option maxHeartbeats 2000000 in
set_option maxRecDepth 100000 in
theorem kv_takeElement (l : Launch) (D : va_G) (g : Nat → Nat) (ka : Nat → ClassId) (ad : Nat → Nat) (i : Nat → Nat → Int32) (r : Nat → Nat → Nat) (L : Nat → Nat → Int64) (d : Nat → Nat → UInt64) (j : Nat) (x : Int32) (hO : OkI i) (hR : RS r) (sz : Nat) (hj : j < 13) (hl0 : (i 1 1).toInt ≤ 60) (hx0 : 0 ≤ x.toInt) (hx1 : x.toInt < (i 1 1).toInt) (hTx : exT i j x.toInt) : Met l yX2_takeElement wsX2_takeElement ({ frames := 5, cells := 0, slots := 0, locals := 120 }) (va_Pc [.ref (g (240 + 9 * j)), .ref (g 1), .int x] (sj_B D (hwc g ka i r L d) (hT ka) sz (gx ad (va_A (hwc g ka i r L d) sz)))) (sj_Qi (S := (Nat → Nat → Int32)) D (fun v u => OkI u ∧ (∀ a, ¬ (a = 240 + 9 * j ∨ a = 240 + 9 * j + 1 ∨ a = 240 + 9 * j + 2 ∨ a = 240 + 9 * j + 3 ∨ a = 240 + 9 * j + 4 ∨ a = 240 + 9 * j + 8) → u a = i a) ∧ ((u (240 + 9 * j + 2) 0).toInt = 0 ∧ (v.toInt = -1 ∨ (x.toInt < v.toInt ∧ v.toInt ≤ (i 1 1).toInt ∧ exT u j v.toInt))) ∧ (∀ k9 : Nat, (v.toInt = -1 ∧ ¬ okr (k9 + 1) (lnL (i 2) x.toInt (i 1 1).toInt) (i (240 + 9 * j) 6).toInt) ∨ (x.toInt < v.toInt ∧ (okr (k9 + 1) (lnL (i 2) x.toInt (i 1 1).toInt) (i (240 + 9 * j) 6).toInt ↔ okr k9 (lnL (i 2) v.toInt (i 1 1).toInt) (u (240 + 9 * j) 6).toInt)))) (fun u => hwc g ka u r L d) (fun _ => []) (va_A (hwc g ka i r L d) sz)) 0 0 (va_A (hwc g ka i r L d) sz) := by
  refine x_met (Ex := gx ad) (cc := cX2_takeElement) (maxL := 4) (ret := (some .int)) (by decide) rfl (Nat.le_of_ble_eq_true rfl) ?_
  intro p e s m below meth c A ls hx hb hr hml hts hown hlocks hA hS hH hK hE hl
  have hown : s.vm.findClass RX2 = some m.cls := hown
  have in3 : ∀ w ∈ wsX30, w ∈ wsX2_takeElement := (fun _ h => (List.mem_cons_of_mem _ (List.mem_append_left _ (List.mem_append_right _ h))))
  have wd0 := hts (.fieldLink RX2 57 "StoryDesk$Letters" "chars" "[C") (List.mem_cons_of_mem _ (List.mem_append_left _ (List.mem_append_left _ (List.mem_append_left _ lm0))))
  have hl : lv_has ls 4 [(0, .ref (g (240 + 9 * j))), (1, .ref (g 1)), (2, .int x)] := hl
  have hK : va_K D vwCl (hT ka) s := hK
  obtain ⟨hT1, hT2, hT3, hT4, hT5, hT6, hT7⟩ := hTx
  refine lv_aload_n hx hb dX2_takeElement_0 rfl (lv_at hl 1 rfl) ?_
  refine h_getr (ci := 3) (C := RX3) (F := TX3) (N := 2) hx hb hts in3 hown hK hH (by decide) (rfl : kd 1 = 3) (by decide) rfl 0 (by decide) wd0 (fun _ h9 => h9) (by decide) rfl (t := 2) (hR 1 0 rfl) (by decide) dX2_takeElement_1 ?_
  refine lv_iload_n hx hb dX2_takeElement_4 rfl (lv_at hl 2 rfl) ?_
  have bx_1 : (0 : Int) ≤ (i 2 (x.toInt).toNat).toInt ∧ (i 2 (x.toInt).toNat).toInt ≤ 65535 := hO 2 (x.toInt).toNat
  refine h_cald hx hb hK hH (by decide) (rfl : kd 2 = 14) (s_vin (N := 480) (rfl : x.toInt = _) (rfl : ln 2 = 480) (by omega) (by omega)) dX2_takeElement_5 ?_
  have ek_2 : x.toNatClampNeg = (x.toInt).toNat := (s_cl (show x.toInt = x.toInt by omega))
  refine sj_i (y := (i 2 (x.toInt).toNat)) (by rw [ek_2]) ?_
  refine lv_istore_n (lv' := [(3, .int (i 2 (x.toInt).toNat)), (0, .ref (g (240 + 9 * j))), (1, .ref (g 1)), (2, .int x)]) hx hb dX2_takeElement_6 rfl hl (by decide) rfl (fun ls hl => ?_)
  refine lv_iload_n hx hb dX2_takeElement_7 rfl (lv_at hl 0 rfl) ?_
  refine lv_bipush (v := 123) hx hb dX2_takeElement_8 (by decide) ?_
  refine lv_icmp_ne (tgt := 20) hx hb dX2_takeElement_10 (by decide) (fun c_3 => ?_) (fun c_3 => ?_)
  · skip
    have h_4 := s_ne (rfl : (i 2 (x.toInt).toNat).toInt = _) (show (123 : Int32).toInt = 123 from rfl) c_3
    refine lv_iload_n hx hb dX2_takeElement_20 rfl (lv_at hl 0 rfl) ?_
    refine lv_bipush (v := 40) hx hb dX2_takeElement_21 (by decide) ?_
    refine lv_icmp_ne (tgt := 33) hx hb dX2_takeElement_23 (by decide) (fun c_5 => ?_) (fun c_5 => ?_)
    · skip
      have h_6 := s_ne (rfl : (i 2 (x.toInt).toNat).toInt = _) (show (40 : Int32).toInt = 40 from rfl) c_5
      refine lv_iload_n hx hb dX2_takeElement_33 rfl (lv_at hl 0 rfl) ?_
      refine lv_bipush (v := 32) hx hb dX2_takeElement_34 (by decide) ?_
      refine lv_icmp_ne (tgt := 58) hx hb dX2_takeElement_36 (by decide) (fun c_7 => ?_) (fun c_7 => ?_)
      · skip
        have h_8 := s_ne (rfl : (i 2 (x.toInt).toNat).toInt = _) (show (32 : Int32).toInt = 32 from rfl) c_7
        refine lv_aload_n hx hb dX2_takeElement_58 rfl (lv_at hl 1 rfl) ?_
        refine lv_aload_n hx hb dX2_takeElement_59 rfl (lv_at hl 2 rfl) ?_
        refine lv_iload_n hx hb dX2_takeElement_60 rfl (lv_at hl 3 rfl) ?_
        refine x_calli (va_runV (As := [.ref (g 1), .int x]) (rest := []) ⟨hx, hb, hml, hown, hts⟩ (kv_takeWord l D g ka ad i r L d j x hO hR s.heap.size (by first | omega | decide) (by first | omega | decide) (by first | omega | decide) (by first | omega | decide) ⟨by omega, by omega, by omega, by omega, by omega, by omega, hT7⟩) (cwV 2 hts gX2_takeElement_X2_takeWord rfl rfl rfl (by decide +kernel) ⟨(Nat.le_of_ble_eq_true rfl), (Nat.le_of_ble_eq_true rfl)⟩) (x_preV (q := (RX2, TX2, 11)) hH hK (q_obj (lt_nK (by omega)) (kd_expr (t := 0) hj (by decide)) (by decide)) rfl gxb (gxw hE hS (x_F hH hS hA))) rfl rfl hl.1 rfl (lv_room (Nat.le_of_ble_eq_true rfl)) dX2_takeElement_61 ⟨(Nat.le_of_ble_eq_true rfl), (Nat.le_of_ble_eq_true rfl)⟩) hH hS hA rfl rfl (fun r_9 im_11 H locs hw_10 hH hS => ?_)
        have hH : sj_H D A (hwc g ka im_11 r L d) H := hH
        obtain ⟨hO_13, hfr_12, he_14, hx2_15⟩ := hw_10
        have hq6_16 : (im_11 (240 + 9 * j) 6).toInt = ((im_11 (240 + 9 * j) 6) : Int32).toInt := congrArg Int32.toInt (rfl)
        have hV_17 : ∀ k9 : Nat, ((r_9 : Int32).toInt = -1 ∧ ¬ okr (k9 + 1) (lnL (i 2) x.toInt (i 1 1).toInt) (i (240 + 9 * j) 6).toInt) ∨ (x.toInt < (r_9 : Int32).toInt ∧ (okr (k9 + 1) (lnL (i 2) x.toInt (i 1 1).toInt) (i (240 + 9 * j) 6).toInt ↔ okr k9 (lnL (i 2) (r_9 : Int32).toInt (i 1 1).toInt) (im_11 (240 + 9 * j) 6).toInt)) := (fun u9 => el_wd (by omega) (by omega) (by omega) (by omega) (by omega) hx2_15)
        exact sj_zret hx hb hr hlocks rfl hS im_11 ⟨hO_13, (fun a ha => (hfr_12 a (by omega))), he_14, hV_17⟩ hH (sj_Knil hK) (Nat.le_of_ble_eq_true rfl) (Nat.le_of_ble_eq_true rfl) dX2_takeElement_64
      · skip
        have h_18 := s_eq (rfl : (i 2 (x.toInt).toNat).toInt = _) (show (32 : Int32).toInt = 32 from rfl) c_7
        refine lv_aload_n hx hb dX2_takeElement_39 rfl (lv_at hl 1 rfl) ?_
        refine lv_iload_n hx hb dX2_takeElement_40 rfl (lv_at hl 0 rfl) ?_
        refine x_callv (va_runV (As := [.int (i 2 (x.toInt).toNat)]) (rest := []) ⟨hx, hb, hml, hown, hts⟩ (k_addChar l D g ka ad i r L d j (i 2 (x.toInt).toNat) hO hR s.heap.size (by first | omega | decide) (by first | omega | decide) (by first | omega | decide)) (cwV 1 hts gX2_takeElement_X2_addChar rfl rfl rfl (by decide +kernel) ⟨(Nat.le_of_ble_eq_true rfl), (Nat.le_of_ble_eq_true rfl)⟩) (x_preV (q := (RX2, TX2, 11)) hH hK (q_obj (lt_nK (by omega)) (kd_expr (t := 0) hj (by decide)) (by decide)) rfl gxb (gxw hE hS (x_F hH hS hA))) rfl rfl hl.1 rfl (lv_room (Nat.le_of_ble_eq_true rfl)) dX2_takeElement_41 ⟨(Nat.le_of_ble_eq_true rfl), (Nat.le_of_ble_eq_true rfl)⟩) hH hS hA rfl rfl (fun im_21 H locs hw_20 hH hS => ?_)
        have hH : sj_H D A (hwc g ka im_21 r L d) H := hH
        obtain ⟨hO_23, hfr_22, he_24, hx2_25⟩ := hw_20
        have hm_26 := hx2_25 hT7
        refine lv_aload_n hx hb dX2_takeElement_44 rfl (lv_at hl 1 rfl) ?_
        refine x_callv (va_runV (As := []) (rest := []) ⟨hx, hb, hml, hown, hts⟩ (k_endChoice l D g ka ad im_21 r L d j hO_23 hR H.size (by first | omega | decide) (by first | omega | decide)) (cwV 0 hts gX2_takeElement_X2_endChoice rfl rfl rfl (by decide +kernel) ⟨(Nat.le_of_ble_eq_true rfl), (Nat.le_of_ble_eq_true rfl)⟩) (x_preV (q := (RX2, TX2, 11)) hH hK (q_obj (lt_nK (by omega)) (kd_expr (t := 0) hj (by decide)) (by decide)) rfl gxb (gxw hE hS (x_F hH hS hA))) rfl rfl hl.1 rfl (lv_room (Nat.le_of_ble_eq_true rfl)) dX2_takeElement_45 ⟨(Nat.le_of_ble_eq_true rfl), (Nat.le_of_ble_eq_true rfl)⟩) hH hS hA rfl rfl (fun im_29 H locs hw_28 hH hS => ?_)
        have hH : sj_H D A (hwc g ka im_29 r L d) H := hH
        obtain ⟨hO_31, hfr_30, he_32, hx2_33⟩ := hw_28
        have hm_34 := hx2_33 hm_26 (by omega)
        refine lv_aload_n hx hb dX2_takeElement_48 rfl (lv_at hl 1 rfl) ?_
        refine lv_bipush (v := 47) hx hb dX2_takeElement_49 (by decide) ?_
        have hl_35 : (47 : Int32).toInt = 47 := rfl
        refine x_callv (va_runV (As := [.int 47]) (rest := []) ⟨hx, hb, hml, hown, hts⟩ (k_endElement l D g ka ad im_29 r L d j 47 hO_31 hR H.size (by first | omega | decide) (by first | omega | decide) (by first | omega | decide) (by first | omega | decide)) (cwV 1 hts gX2_takeElement_X2_endElement rfl rfl rfl (by decide +kernel) ⟨(Nat.le_of_ble_eq_true rfl), (Nat.le_of_ble_eq_true rfl)⟩) (x_preV (q := (RX2, TX2, 11)) hH hK (q_obj (lt_nK (by omega)) (kd_expr (t := 0) hj (by decide)) (by decide)) rfl gxb (gxw hE hS (x_F hH hS hA))) rfl rfl hl.1 rfl (lv_room (Nat.le_of_ble_eq_true rfl)) dX2_takeElement_51 ⟨(Nat.le_of_ble_eq_true rfl), (Nat.le_of_ble_eq_true rfl)⟩) hH hS hA rfl rfl (fun im_38 H locs hw_37 hH hS => ?_)
        have hH : sj_H D A (hwc g ka im_38 r L d) H := hH
        obtain ⟨hO_40, hfr_39, he_41, hx2_42⟩ := hw_37
        have hm_43 := hx2_42 hm_34
        refine lv_iload_n hx hb dX2_takeElement_54 rfl (lv_at hl 3 rfl) ?_
        refine lv_iconst (v := 1) hx hb dX2_takeElement_55 (by decide) ?_
        refine lv_iadd hx hb dX2_takeElement_56 ?_
        obtain ⟨z_44, ez_44, hz_44⟩ := s_add (rfl : x.toInt = _) (show (1 : Int32).toInt = 1 from rfl) (by omega) (by omega)
        refine sj_i ez_44 ?_
        have hq6_45 : (im_38 (240 + 9 * j) 6).toInt = ((im_38 (240 + 9 * j) 6) : Int32).toInt := congrArg Int32.toInt (rfl)
        have hV_46 : ∀ k9 : Nat, ((z_44 : Int32).toInt = -1 ∧ ¬ okr (k9 + 1) (lnL (i 2) x.toInt (i 1 1).toInt) (i (240 + 9 * j) 6).toInt) ∨ (x.toInt < (z_44 : Int32).toInt ∧ (okr (k9 + 1) (lnL (i 2) x.toInt (i 1 1).toInt) (i (240 + 9 * j) 6).toInt ↔ okr k9 (lnL (i 2) (z_44 : Int32).toInt (i 1 1).toInt) (im_38 (240 + 9 * j) 6).toInt)) := (fun u9 => el_bl (by omega) (by omega) (by omega) (by omega) (by omega))
        exact sj_zret hx hb hr hlocks rfl hS im_38 ⟨hO_40, (fun a ha => ((hfr_39 a (by omega)).trans ((hfr_30 a (by omega)).trans (hfr_22 a (by omega))))), ⟨by omega, Or.inr ⟨by omega, by omega, ⟨by omega, by omega, by omega, by omega, by omega, by omega, hm_43⟩⟩⟩, hV_46⟩ hH (sj_Knil hK) (Nat.le_of_ble_eq_true rfl) (Nat.le_of_ble_eq_true rfl) dX2_takeElement_57
    · skip
      have h_47 := s_eq (rfl : (i 2 (x.toInt).toNat).toInt = _) (show (40 : Int32).toInt = 40 from rfl) c_5
      refine lv_aload_n hx hb dX2_takeElement_26 rfl (lv_at hl 1 rfl) ?_
      refine lv_aload_n hx hb dX2_takeElement_27 rfl (lv_at hl 2 rfl) ?_
      refine lv_iload_n hx hb dX2_takeElement_28 rfl (lv_at hl 3 rfl) ?_
      refine x_calli (va_runV (As := [.ref (g 1), .int x]) (rest := []) ⟨hx, hb, hml, hown, hts⟩ (kv_takeOptional l D g ka ad i r L d j x hO hR s.heap.size (by first | omega | decide) (by first | omega | decide) (by first | omega | decide) (by first | omega | decide) ⟨by omega, by omega, by omega, by omega, by omega, by omega, hT7⟩) (cwV 2 hts gX2_takeElement_X2_takeOptional rfl rfl rfl (by decide +kernel) ⟨(Nat.le_of_ble_eq_true rfl), (Nat.le_of_ble_eq_true rfl)⟩) (x_preV (q := (RX2, TX2, 11)) hH hK (q_obj (lt_nK (by omega)) (kd_expr (t := 0) hj (by decide)) (by decide)) rfl gxb (gxw hE hS (x_F hH hS hA))) rfl rfl hl.1 rfl (lv_room (Nat.le_of_ble_eq_true rfl)) dX2_takeElement_29 ⟨(Nat.le_of_ble_eq_true rfl), (Nat.le_of_ble_eq_true rfl)⟩) hH hS hA rfl rfl (fun r_48 im_50 H locs hw_49 hH hS => ?_)
      have hH : sj_H D A (hwc g ka im_50 r L d) H := hH
      obtain ⟨hO_52, hfr_51, he_53, hx2_54⟩ := hw_49
      have hq6_55 : (im_50 (240 + 9 * j) 6).toInt = ((im_50 (240 + 9 * j) 6) : Int32).toInt := congrArg Int32.toInt (rfl)
      have hV_56 : ∀ k9 : Nat, ((r_48 : Int32).toInt = -1 ∧ ¬ okr (k9 + 1) (lnL (i 2) x.toInt (i 1 1).toInt) (i (240 + 9 * j) 6).toInt) ∨ (x.toInt < (r_48 : Int32).toInt ∧ (okr (k9 + 1) (lnL (i 2) x.toInt (i 1 1).toInt) (i (240 + 9 * j) 6).toInt ↔ okr k9 (lnL (i 2) (r_48 : Int32).toInt (i 1 1).toInt) (im_50 (240 + 9 * j) 6).toInt)) := (fun u9 => el_op (by omega) (by omega) (by omega) hx2_54)
      exact sj_zret hx hb hr hlocks rfl hS im_50 ⟨hO_52, (fun a ha => (hfr_51 a (by omega))), he_53, hV_56⟩ hH (sj_Knil hK) (Nat.le_of_ble_eq_true rfl) (Nat.le_of_ble_eq_true rfl) dX2_takeElement_32
  · skip
    have h_57 := s_eq (rfl : (i 2 (x.toInt).toNat).toInt = _) (show (123 : Int32).toInt = 123 from rfl) c_3
    refine lv_aload_n hx hb dX2_takeElement_13 rfl (lv_at hl 1 rfl) ?_
    refine lv_aload_n hx hb dX2_takeElement_14 rfl (lv_at hl 2 rfl) ?_
    refine lv_iload_n hx hb dX2_takeElement_15 rfl (lv_at hl 3 rfl) ?_
    refine x_calli (va_runV (As := [.ref (g 1), .int x]) (rest := []) ⟨hx, hb, hml, hown, hts⟩ (kv_takeParam l D g ka ad i r L d j x hO hR s.heap.size (by first | omega | decide) (by first | omega | decide) (by first | omega | decide) (by first | omega | decide) ⟨by omega, by omega, by omega, by omega, by omega, by omega, hT7⟩) (cwV 2 hts gX2_takeElement_X2_takeParameter rfl rfl rfl (by decide +kernel) ⟨(Nat.le_of_ble_eq_true rfl), (Nat.le_of_ble_eq_true rfl)⟩) (x_preV (q := (RX2, TX2, 11)) hH hK (q_obj (lt_nK (by omega)) (kd_expr (t := 0) hj (by decide)) (by decide)) rfl gxb (gxw hE hS (x_F hH hS hA))) rfl rfl hl.1 rfl (lv_room (Nat.le_of_ble_eq_true rfl)) dX2_takeElement_16 ⟨(Nat.le_of_ble_eq_true rfl), (Nat.le_of_ble_eq_true rfl)⟩) hH hS hA rfl rfl (fun r_58 im_60 H locs hw_59 hH hS => ?_)
    have hH : sj_H D A (hwc g ka im_60 r L d) H := hH
    obtain ⟨hO_62, hfr_61, he_63, hx2_64⟩ := hw_59
    have hq6_65 : (im_60 (240 + 9 * j) 6).toInt = ((im_60 (240 + 9 * j) 6) : Int32).toInt := congrArg Int32.toInt (rfl)
    have hV_66 : ∀ k9 : Nat, ((r_58 : Int32).toInt = -1 ∧ ¬ okr (k9 + 1) (lnL (i 2) x.toInt (i 1 1).toInt) (i (240 + 9 * j) 6).toInt) ∨ (x.toInt < (r_58 : Int32).toInt ∧ (okr (k9 + 1) (lnL (i 2) x.toInt (i 1 1).toInt) (i (240 + 9 * j) 6).toInt ↔ okr k9 (lnL (i 2) (r_58 : Int32).toInt (i 1 1).toInt) (im_60 (240 + 9 * j) 6).toInt)) := (fun u9 => el_pa (by omega) (by omega) (by omega) (by have h9 := hO_62 (240 + 9 * j) 6; rw [bx_expr0 hj 6] at h9; exact h9.2) hx2_64)
    exact sj_zret hx hb hr hlocks rfl hS im_60 ⟨hO_62, (fun a ha => (hfr_61 a (by omega))), he_63, hV_66⟩ hH (sj_Knil hK) (Nat.le_of_ble_eq_true rfl) (Nat.le_of_ble_eq_true rfl) dX2_takeElement_19
set_option maxHeartbeats 2000000 in
set_option maxRecDepth 100000 in
theorem kv_take (l : Launch) (D : va_G) (g : Nat → Nat) (ka : Nat → ClassId) (ad : Nat → Nat) (i : Nat → Nat → Int32) (r : Nat → Nat → Nat) (L : Nat → Nat → Int64) (d : Nat → Nat → UInt64) (j : Nat) (hO : OkI i) (hR : RS r) (sz : Nat) (hj : j < 13) (h00 : (i (240 + 9 * j + 2) 0).toInt = 0) : Met l yX2_take wsX2_take ({ frames := 6, cells := 0, slots := 0, locals := 143 }) (va_Pc [.ref (g (240 + 9 * j)), .ref (g 1)] (sj_B D (hwc g ka i r L d) (hT ka) sz (gx ad (va_A (hwc g ka i r L d) sz)))) (sj_Qi (S := (Nat → Nat → Int32)) D (fun v u => OkI u ∧ (∀ a, ¬ (a = 240 + 9 * j ∨ a = 240 + 9 * j + 1 ∨ a = 240 + 9 * j + 2 ∨ a = 240 + 9 * j + 3 ∨ a = 240 + 9 * j + 4 ∨ a = 240 + 9 * j + 8) → u a = i a) ∧ ((0 : Int) ≤ v.toInt ∧ v.toInt ≤ 1) ∧ ((u (240 + 9 * j + 2) 0).toInt = 0 ∧ (v.toInt = 0 ∨ ((cn u j : Int) ≤ 6))) ∧ (v.toInt = 1 → mono u j) ∧ ((v.toInt = 1 ∧ prOK (lnL (i 2) 0 (i 1 1).toInt)) ∨ (v.toInt = 0 ∧ ¬ prOK (lnL (i 2) 0 (i 1 1).toInt)))) (fun u => hwc g ka u r L d) (fun _ => []) (va_A (hwc g ka i r L d) sz)) 0 0 (va_A (hwc g ka i r L d) sz) := by
  refine x_met (Ex := gx ad) (cc := cX2_take) (maxL := 4) (ret := (some .boolean)) (by decide) rfl (Nat.le_of_ble_eq_true rfl) ?_
  intro p e s m below meth c A ls hx hb hr hml hts hown hlocks hA hS hH hK hE hl
  have hown : s.vm.findClass RX2 = some m.cls := hown
  have in2 : ∀ w ∈ wsX20, w ∈ wsX2_take := (fun _ h => (List.mem_cons_of_mem _ (List.mem_append_left _ (List.mem_append_right _ h))))
  have in3 : ∀ w ∈ wsX30, w ∈ wsX2_take := (fun _ h => (List.mem_cons_of_mem _ (List.mem_append_right _ h)))
  have wd0 := hts (.fieldLink RX2 38 "StoryDesk$Expression" "elements" "I") (List.mem_cons_of_mem _ (List.mem_append_left _ (List.mem_append_left _ (List.mem_append_left _ lm0))))
  have wd1 := hts (.fieldLink RX2 42 "StoryDesk$Expression" "choices" "I") (List.mem_cons_of_mem _ (List.mem_append_left _ (List.mem_append_left _ (List.mem_append_left _ lm1))))
  have wd2 := hts (.fieldLink RX2 15 "StoryDesk$Expression" "choiceStarts" "[I") (List.mem_cons_of_mem _ (List.mem_append_left _ (List.mem_append_left _ (List.mem_append_left _ lm2))))
  have wd3 := hts (.fieldLink RX2 45 "StoryDesk$Expression" "parameters" "I") (List.mem_cons_of_mem _ (List.mem_append_left _ (List.mem_append_left _ (List.mem_append_left _ lm3))))
  have wd4 := hts (.fieldLink RX2 48 "StoryDesk$Letters" "length" "I") (List.mem_cons_of_mem _ (List.mem_append_left _ (List.mem_append_left _ (List.mem_append_left _ lm4))))
  have hl : lv_has ls 4 [(0, .ref (g (240 + 9 * j))), (1, .ref (g 1))] := hl
  have hK : va_K D vwCl (hT ka) s := hK
  have hb1 : (0 : Int) ≤ (i 1 1).toInt ∧ (i 1 1).toInt ≤ 480 := hO 1 1
  refine lv_aload_n hx hb dX2_take_0 rfl (lv_at hl 0 rfl) ?_
  refine lv_iconst (v := 0) hx hb dX2_take_1 (by decide) ?_
  have hO_1 := okp hO (n := (240 + 9 * j)) (k := 5) (v := 0) (by rw [bx_expr0 hj 5]; exact (show (0 : Int) ≤ (0 : Int32).toInt ∧ (0 : Int32).toInt ≤ 60 from ⟨by decide, by decide⟩))
  refine h_puti (ty := .int) (ci := 2) (C := RX2) (F := TX2) (N := 11) hx hb hts in2 tyX2 tyX2_ok nmX2 hown hK hH hS (lt_nK (by omega)) (kd_expr (t := 0) hj (by decide)) (by decide) rfl 5 (by decide) wd0 (fun _ h9 => h9) rfl (by decide +kernel) rfl rfl (by decide) rfl dX2_take_2 (fun H locs hH hS => ?_)
  refine lv_aload_n hx hb dX2_take_5 rfl (lv_at hl 0 rfl) ?_
  refine lv_iconst (v := 0) hx hb dX2_take_6 (by decide) ?_
  have hO_2 := okp hO_1 (n := (240 + 9 * j)) (k := 2) (v := 0) (by rw [bx_expr0 hj 2]; exact (show (0 : Int) ≤ (0 : Int32).toInt ∧ (0 : Int32).toInt ≤ 61 from ⟨by decide, by decide⟩))
  refine h_puti (ty := .int) (ci := 2) (C := RX2) (F := TX2) (N := 11) hx hb hts in2 tyX2 tyX2_ok nmX2 hown hK hH hS (lt_nK (by omega)) (kd_expr (t := 0) hj (by decide)) (by decide) rfl 2 (by decide) wd1 (fun _ h9 => h9) rfl (by decide +kernel) rfl rfl (by decide) rfl dX2_take_7 (fun H locs hH hS => ?_)
  refine lv_aload_n hx hb dX2_take_10 rfl (lv_at hl 0 rfl) ?_
  refine h_getr (ci := 2) (C := RX2) (F := TX2) (N := 11) hx hb hts in2 hown hK hH (lt_nK (by omega)) (kd_expr (t := 0) hj (by decide)) (by decide) rfl 1 (by decide) wd2 (fun _ h9 => h9) (by decide) rfl (t := (240 + 9 * j + 2)) ((hR _ _ (by unfold dyn; simp <;> omega)).trans (sr_expr (by omega) (by omega))) (lt_nK (by omega)) dX2_take_11 ?_
  refine lv_iconst (v := 1) hx hb dX2_take_14 (by decide) ?_
  refine lv_iconst (v := 0) hx hb dX2_take_15 (by decide) ?_
  have hO_3 := okp hO_2 (n := (240 + 9 * j + 2)) (k := 1) (v := 0) (by rw [bx_expr (t := 2) hj (by decide) (by decide) 1]; exact (show (0 : Int) ≤ (0 : Int32).toInt ∧ (0 : Int32).toInt ≤ 60 from ⟨by decide, by decide⟩))
  refine h_iast hx hb hK hH hS (lt_nK (by omega)) (kd_expr (t := 2) hj (by decide)) (s_vin (N := 62) (show (1 : Int32).toInt = 1 from rfl) (ln_expr (t := 2) hj (by decide)) (by omega) (by omega)) dX2_take_16 (fun H locs hH hS => ?_)
  have hH : sj_H D A (hwc g ka (up2 (up2 (up2 i (240 + 9 * j) 5 0) (240 + 9 * j) 2 0) (240 + 9 * j + 2) 1 0) r L d) H := hH
  refine lv_aload_n hx hb dX2_take_17 rfl (lv_at hl 0 rfl) ?_
  refine lv_iconst (v := 0) hx hb dX2_take_18 (by decide) ?_
  have hO_4 := okp hO_3 (n := (240 + 9 * j)) (k := 6) (v := 0) (by rw [bx_expr0 hj 6]; exact (show (0 : Int) ≤ (0 : Int32).toInt ∧ (0 : Int32).toInt ≤ 6 from ⟨by decide, by decide⟩))
  refine h_puti (ty := .int) (ci := 2) (C := RX2) (F := TX2) (N := 11) hx hb hts in2 tyX2 tyX2_ok nmX2 hown hK hH hS (lt_nK (by omega)) (kd_expr (t := 0) hj (by decide)) (by decide) rfl 6 (by decide) wd3 (fun _ h9 => h9) rfl (by decide +kernel) rfl rfl (by decide) rfl dX2_take_19 (fun H locs hH hS => ?_)
  refine lv_aload_n hx hb dX2_take_22 rfl (lv_at hl 1 rfl) ?_
  have bx_5 : (0 : Int) ≤ (i 1 1).toInt ∧ (i 1 1).toInt ≤ 480 := hO 1 1
  refine h_geti (ci := 3) (C := RX3) (F := TX3) (N := 2) hx hb hts in3 hown hK hH (by decide) (rfl : kd 1 = 3) (by decide) rfl 1 (by decide) wd4 (fun _ h9 => h9) (by decide) rfl dX2_take_23 ?_
  refine sj_i (y := (i 1 1)) ((congrFun (up2_n _ _ (by omega)) _).trans ((congrFun (up2_n _ _ (by omega)) _).trans ((congrFun (up2_n _ _ (by omega)) _).trans (congrFun (up2_n _ _ (by omega)) _)))) ?_
  refine lv_iconst (v := 1) hx hb dX2_take_26 (by decide) ?_
  refine lv_icmp_lt (tgt := 39) hx hb dX2_take_27 (by decide) (fun c_6 => ?_) (fun c_6 => ?_)
  · skip
    have h_7 := s_lt (rfl : (i 1 1).toInt = _) (show (1 : Int32).toInt = 1 from rfl) c_6
    refine lv_iconst (v := 0) hx hb dX2_take_39 (by decide) ?_
    have hlv_8 : (0 : Int32).toInt = 0 := rfl
    have hzz : (0 : Int32).toInt = 0 := rfl
    have hf2 : (up2 (up2 (up2 (up2 i (240 + 9 * j) 5 0) (240 + 9 * j) 2 0) (240 + 9 * j + 2) 1 0) (240 + 9 * j) 6 0) (240 + 9 * j) 2 = 0 := ((up2_k _ _ (by decide)).trans ((congrFun (up2_n _ _ (by omega)) _).trans (up2_at _ _ _ _)))
    have hf2i := congrArg Int32.toInt hf2
    have hf5 : (up2 (up2 (up2 (up2 i (240 + 9 * j) 5 0) (240 + 9 * j) 2 0) (240 + 9 * j + 2) 1 0) (240 + 9 * j) 6 0) (240 + 9 * j) 5 = 0 := ((up2_k _ _ (by decide)).trans ((congrFun (up2_n _ _ (by omega)) _).trans ((up2_k _ _ (by decide)).trans (up2_at _ _ _ _))))
    have hf5i := congrArg Int32.toInt hf5
    have hf6 : (up2 (up2 (up2 (up2 i (240 + 9 * j) 5 0) (240 + 9 * j) 2 0) (240 + 9 * j + 2) 1 0) (240 + 9 * j) 6 0) (240 + 9 * j) 6 = 0 := (up2_at _ _ _ _)
    have hf6i := congrArg Int32.toInt hf6
    have hkC : kC (up2 (up2 (up2 (up2 i (240 + 9 * j) 5 0) (240 + 9 * j) 2 0) (240 + 9 * j + 2) 1 0) (240 + 9 * j) 6 0) j = (0 : Int32).toInt := by unfold kC; rw [hf2, show ((0 : Int32).toInt + 1).toNat = 1 by omega]; exact congrArg Int32.toInt (((congrFun (up2_n _ _ (by omega)) _).trans (up2_at _ _ _ _)))
    have hkB : kB (up2 (up2 (up2 (up2 i (240 + 9 * j) 5 0) (240 + 9 * j) 2 0) (240 + 9 * j + 2) 1 0) (240 + 9 * j) 6 0) j = ((i (240 + 9 * j + 2) 0) : Int32).toInt := by unfold kB; rw [hf2, show ((0 : Int32).toInt).toNat = 0 by omega]; exact congrArg Int32.toInt (((congrFun (up2_n _ _ (by omega)) _).trans ((up2_k _ _ (by decide)).trans ((congrFun (up2_n _ _ (by omega)) _).trans (congrFun (up2_n _ _ (by omega)) _)))))
    have hiC : kC i j = (i (240 + 9 * j + 2) ((i (240 + 9 * j) 2).toInt + 1).toNat).toInt := rfl
    have hiB : kB i j = (i (240 + 9 * j + 2) ((i (240 + 9 * j) 2).toInt).toNat).toInt := rfl
    have hf0 : ((up2 (up2 (up2 (up2 i (240 + 9 * j) 5 0) (240 + 9 * j) 2 0) (240 + 9 * j + 2) 1 0) (240 + 9 * j) 6 0) (240 + 9 * j + 2) 0).toInt = ((i (240 + 9 * j + 2) 0) : Int32).toInt := congrArg Int32.toInt (((congrFun (up2_n _ _ (by omega)) _).trans ((up2_k _ _ (by decide)).trans ((congrFun (up2_n _ _ (by omega)) _).trans (congrFun (up2_n _ _ (by omega)) _)))))
    have hV_9 : ((0 : Int32).toInt = 1 ∧ prOK (lnL (i 2) 0 (i 1 1).toInt)) ∨ ((0 : Int32).toInt = 0 ∧ ¬ prOK (lnL (i 2) 0 (i 1 1).toInt)) := (Or.inr ⟨by omega, prOK_no (by omega) (by omega)⟩)
    exact sj_zret hx hb hr hlocks (by decide +kernel) hS (up2 (up2 (up2 (up2 i (240 + 9 * j) 5 0) (240 + 9 * j) 2 0) (240 + 9 * j + 2) 1 0) (240 + 9 * j) 6 0) ⟨hO_4, (fun a ha => ((up2_n _ _ (by omega)).trans ((up2_n _ _ (by omega)).trans ((up2_n _ _ (by omega)).trans (up2_n _ _ (by omega)))))), ⟨by decide, by decide⟩, ⟨by omega, Or.inl (by omega)⟩, (fun h => absurd h (by decide)), hV_9⟩ hH (sj_Knil hK) (Nat.le_of_ble_eq_true rfl) (Nat.le_of_ble_eq_true rfl) dX2_take_40
  · skip
    have h_10 := s_nlt (rfl : (i 1 1).toInt = _) (show (1 : Int32).toInt = 1 from rfl) c_6
    refine lv_aload_n hx hb dX2_take_30 rfl (lv_at hl 1 rfl) ?_
    refine h_geti (ci := 3) (C := RX3) (F := TX3) (N := 2) hx hb hts in3 hown hK hH (by decide) (rfl : kd 1 = 3) (by decide) rfl 1 (by decide) wd4 (fun _ h9 => h9) (by decide) rfl dX2_take_31 ?_
    refine sj_i (y := (i 1 1)) ((congrFun (up2_n _ _ (by omega)) _).trans ((congrFun (up2_n _ _ (by omega)) _).trans ((congrFun (up2_n _ _ (by omega)) _).trans (congrFun (up2_n _ _ (by omega)) _)))) ?_
    refine lv_bipush (v := 60) hx hb dX2_take_34 (by decide) ?_
    refine lv_icmp_le (tgt := 41) hx hb dX2_take_36 (by decide) (fun c_11 => ?_) (fun c_11 => ?_)
    · skip
      have h_12 := s_le (rfl : (i 1 1).toInt = _) (show (60 : Int32).toInt = 60 from rfl) c_11
      refine lv_iconst (v := 0) hx hb dX2_take_41 (by decide) ?_
      refine lv_istore_n (lv' := [(2, .int 0), (0, .ref (g (240 + 9 * j))), (1, .ref (g 1))]) hx hb dX2_take_42 rfl hl (by decide) rfl (fun ls hl => ?_)
      refine lv_iconst (v := 0) hx hb dX2_take_43 (by decide) ?_
      refine lv_istore_n (lv' := [(3, .int 0), (2, .int 0), (0, .ref (g (240 + 9 * j))), (1, .ref (g 1))]) hx hb dX2_take_44 rfl hl (by decide) rfl (fun ls hl => ?_)
      -- loop at 45
      have lp_13 : ∀ (fuel_lp_13 : Nat) (f : Int32) (u : Int32) (j1 : Nat → Nat → Int32) (H : Heap) (locs : List Loc) (ls : Array Slot), (60 - u.toInt).toNat < fuel_lp_13 → (-1 : Int) ≤ f.toInt ∧ f.toInt ≤ 60 → (0 : Int) ≤ u.toInt ∧ u.toInt ≤ 60 → f.toInt ≤ (i 1 1).toInt → f.toInt = -1 ∨ exT j1 j f.toInt → (j1 (240 + 9 * j + 2) 0).toInt = 0 → tkI (i 2) (i 1 1).toInt f.toInt (60 - u.toInt).toNat (j1 (240 + 9 * j) 6).toInt → OkI j1 → (∀ a, ¬ (a = 240 + 9 * j ∨ a = 240 + 9 * j + 1 ∨ a = 240 + 9 * j + 2 ∨ a = 240 + 9 * j + 3 ∨ a = 240 + 9 * j + 4 ∨ a = 240 + 9 * j + 8) → j1 a = (up2 (up2 (up2 (up2 i (240 + 9 * j) 5 0) (240 + 9 * j) 2 0) (240 + 9 * j + 2) 1 0) (240 + 9 * j) 6 0) a) → lv_has ls 4 [(3, .int u), (2, .int f), (0, .ref (g (240 + 9 * j))), (1, .ref (g 1))] → sj_H D A (hwc g ka j1 r L d) H → va_S A s.heap H locs → W p l e (headSpec wsX2_take ({ frames := 6, cells := 0, slots := 0, locals := 143 })).room s m ([.ref (g (240 + 9 * j)), .ref (g 1)] : List Value).toArray below meth c H locs 0 0 (MQ below (sj_Qi (S := (Nat → Nat → Int32)) D (fun v u => OkI u ∧ (∀ a, ¬ (a = 240 + 9 * j ∨ a = 240 + 9 * j + 1 ∨ a = 240 + 9 * j + 2 ∨ a = 240 + 9 * j + 3 ∨ a = 240 + 9 * j + 4 ∨ a = 240 + 9 * j + 8) → u a = i a) ∧ ((0 : Int) ≤ v.toInt ∧ v.toInt ≤ 1) ∧ ((u (240 + 9 * j + 2) 0).toInt = 0 ∧ (v.toInt = 0 ∨ ((cn u j : Int) ≤ 6))) ∧ (v.toInt = 1 → mono u j) ∧ ((v.toInt = 1 ∧ prOK (lnL (i 2) 0 (i 1 1).toInt)) ∨ (v.toInt = 0 ∧ ¬ prOK (lnL (i 2) 0 (i 1 1).toInt)))) (fun u => hwc g ka u r L d) (fun _ => []) A) ([.ref (g (240 + 9 * j)), .ref (g 1)] : List Value).toArray s 0 0 A) (F0 m 45 ls []) := by
        intro fuel_lp_13
        induction fuel_lp_13 with
        | zero => intros; omega
        | succ fuel_lp_13 ih_lp_13 =>
          intro f u j1 H locs ls hm hr_f hr_u hi_lp_13_0 hi_lp_13_1 hi_lp_13_2 hi_lp_13_3 hO_j1 hfr_j1 hl hH hS
          refine lv_iload_n hx hb dX2_take_45 rfl (lv_at hl 0 rfl) ?_
          refine lv_bipush (v := 60) hx hb dX2_take_46 (by decide) ?_
          refine lv_icmp_ge (tgt := 76) hx hb dX2_take_48 (by decide) (fun c_14 => ?_) (fun c_14 => ?_)
          · skip
            have h_15 := s_le (show (60 : Int32).toInt = 60 from rfl) (rfl : u.toInt = _) c_14
            refine lv_iload_n hx hb dX2_take_76 rfl (lv_at hl 1 rfl) ?_
            refine lv_aload_n hx hb dX2_take_77 rfl (lv_at hl 3 rfl) ?_
            refine h_geti (ci := 3) (C := RX3) (F := TX3) (N := 2) hx hb hts in3 hown hK hH (by decide) (rfl : kd 1 = 3) (by decide) rfl 1 (by decide) wd4 (fun _ h9 => h9) (by decide) rfl dX2_take_78 ?_
            refine sj_i (y := (i 1 1)) ((congrFun (hfr_j1 1 (by omega)) _).trans ((congrFun (up2_n _ _ (by omega)) _).trans ((congrFun (up2_n _ _ (by omega)) _).trans ((congrFun (up2_n _ _ (by omega)) _).trans (congrFun (up2_n _ _ (by omega)) _))))) ?_
            refine lv_icmp_ne (tgt := 88) hx hb dX2_take_81 (by decide) (fun c_16 => ?_) (fun c_16 => ?_)
            · skip
              have h_17 := s_ne (rfl : f.toInt = _) (rfl : (i 1 1).toInt = _) c_16
              refine lv_iconst (v := 0) hx hb dX2_take_88 (by decide) ?_
              have hlv_18 : (0 : Int32).toInt = 0 := rfl
              have hV_19 : ((0 : Int32).toInt = 1 ∧ prOK (lnL (i 2) 0 (i 1 1).toInt)) ∨ ((0 : Int32).toInt = 0 ∧ ¬ prOK (lnL (i 2) 0 (i 1 1).toInt)) := (tkI_end hi_lp_13_3 (by have h9 := hO_j1 (240 + 9 * j) 6; rw [bx_expr0 hj 6] at h9; exact h9.2) (by omega) (by omega) (by omega) (by omega) (by omega))
              exact sj_zret hx hb hr hlocks (by decide +kernel) hS j1 ⟨hO_j1, (fun a ha => ((hfr_j1 a (by omega)).trans ((up2_n _ _ (by omega)).trans ((up2_n _ _ (by omega)).trans ((up2_n _ _ (by omega)).trans (up2_n _ _ (by omega))))))), ⟨by decide, by decide⟩, ⟨by omega, Or.inl (by omega)⟩, (fun h => absurd h (by decide)), hV_19⟩ hH (sj_Knil hK) (Nat.le_of_ble_eq_true rfl) (Nat.le_of_ble_eq_true rfl) dX2_take_89
            · skip
              have h_20 := s_eq (rfl : f.toInt = _) (rfl : (i 1 1).toInt = _) c_16
              refine lv_iconst (v := 1) hx hb dX2_take_84 (by decide) ?_
              refine lv_goto (tgt := 89) hx hb dX2_take_85 (by decide) ?_
              have hlv_21 : (1 : Int32).toInt = 1 := rfl
              have h9 := hi_lp_13_1.resolve_left (by omega)
              have h8 := h9.2.2.2.2.1
              have bq : (0 : Int) ≤ (j1 (240 + 9 * j) 6).toInt ∧ (j1 (240 + 9 * j) 6).toInt ≤ 6 := by have h9 := hO_j1 (240 + 9 * j) 6; rw [bx_expr0 hj 6] at h9; exact h9
              have hV_22 : ((1 : Int32).toInt = 1 ∧ prOK (lnL (i 2) 0 (i 1 1).toInt)) ∨ ((1 : Int32).toInt = 0 ∧ ¬ prOK (lnL (i 2) 0 (i 1 1).toInt)) := (tkI_end hi_lp_13_3 (by have h9 := hO_j1 (240 + 9 * j) 6; rw [bx_expr0 hj 6] at h9; exact h9.2) (by omega) (by omega) (by omega) (by omega) (by omega))
              exact sj_zret hx hb hr hlocks (by decide +kernel) hS j1 ⟨hO_j1, (fun a ha => ((hfr_j1 a (by omega)).trans ((up2_n _ _ (by omega)).trans ((up2_n _ _ (by omega)).trans ((up2_n _ _ (by omega)).trans (up2_n _ _ (by omega))))))), ⟨by decide, by decide⟩, ⟨by omega, Or.inr (by omega)⟩, (fun _ => h9.2.2.2.2.2.2), hV_22⟩ hH (sj_Knil hK) (Nat.le_of_ble_eq_true rfl) (Nat.le_of_ble_eq_true rfl) dX2_take_89
          · skip
            have h_23 := s_nle (show (60 : Int32).toInt = 60 from rfl) (rfl : u.toInt = _) c_14
            refine lv_iload_n hx hb dX2_take_51 rfl (lv_at hl 1 rfl) ?_
            refine lv_if_lt (tgt := 76) hx hb dX2_take_52 (by decide) (fun c_24 => ?_) (fun c_24 => ?_)
            · skip
              have h_25 := s_lt (rfl : f.toInt = _) (show (0 : Int32).toInt = 0 from rfl) c_24
              refine lv_iload_n hx hb dX2_take_76 rfl (lv_at hl 1 rfl) ?_
              refine lv_aload_n hx hb dX2_take_77 rfl (lv_at hl 3 rfl) ?_
              refine h_geti (ci := 3) (C := RX3) (F := TX3) (N := 2) hx hb hts in3 hown hK hH (by decide) (rfl : kd 1 = 3) (by decide) rfl 1 (by decide) wd4 (fun _ h9 => h9) (by decide) rfl dX2_take_78 ?_
              refine sj_i (y := (i 1 1)) ((congrFun (hfr_j1 1 (by omega)) _).trans ((congrFun (up2_n _ _ (by omega)) _).trans ((congrFun (up2_n _ _ (by omega)) _).trans ((congrFun (up2_n _ _ (by omega)) _).trans (congrFun (up2_n _ _ (by omega)) _))))) ?_
              refine lv_icmp_ne (tgt := 88) hx hb dX2_take_81 (by decide) (fun _ => ?_) (fun h => absurd h (p_ne (rfl : f.toInt = _) (rfl : (i 1 1).toInt = _) (by omega)))
              refine lv_iconst (v := 0) hx hb dX2_take_88 (by decide) ?_
              have hlv_26 : (0 : Int32).toInt = 0 := rfl
              have hV_27 : ((0 : Int32).toInt = 1 ∧ prOK (lnL (i 2) 0 (i 1 1).toInt)) ∨ ((0 : Int32).toInt = 0 ∧ ¬ prOK (lnL (i 2) 0 (i 1 1).toInt)) := (tkI_end hi_lp_13_3 (by have h9 := hO_j1 (240 + 9 * j) 6; rw [bx_expr0 hj 6] at h9; exact h9.2) (by omega) (by omega) (by omega) (by omega) (by omega))
              exact sj_zret hx hb hr hlocks (by decide +kernel) hS j1 ⟨hO_j1, (fun a ha => ((hfr_j1 a (by omega)).trans ((up2_n _ _ (by omega)).trans ((up2_n _ _ (by omega)).trans ((up2_n _ _ (by omega)).trans (up2_n _ _ (by omega))))))), ⟨by decide, by decide⟩, ⟨by omega, Or.inl (by omega)⟩, (fun h => absurd h (by decide)), hV_27⟩ hH (sj_Knil hK) (Nat.le_of_ble_eq_true rfl) (Nat.le_of_ble_eq_true rfl) dX2_take_89
            · skip
              have h_28 := s_nlt (rfl : f.toInt = _) (show (0 : Int32).toInt = 0 from rfl) c_24
              refine lv_iload_n hx hb dX2_take_55 rfl (lv_at hl 1 rfl) ?_
              refine lv_aload_n hx hb dX2_take_56 rfl (lv_at hl 3 rfl) ?_
              refine h_geti (ci := 3) (C := RX3) (F := TX3) (N := 2) hx hb hts in3 hown hK hH (by decide) (rfl : kd 1 = 3) (by decide) rfl 1 (by decide) wd4 (fun _ h9 => h9) (by decide) rfl dX2_take_57 ?_
              refine sj_i (y := (i 1 1)) ((congrFun (hfr_j1 1 (by omega)) _).trans ((congrFun (up2_n _ _ (by omega)) _).trans ((congrFun (up2_n _ _ (by omega)) _).trans ((congrFun (up2_n _ _ (by omega)) _).trans (congrFun (up2_n _ _ (by omega)) _))))) ?_
              refine lv_icmp_ge (tgt := 76) hx hb dX2_take_60 (by decide) (fun c_29 => ?_) (fun c_29 => ?_)
              · skip
                have h_30 := s_le (rfl : (i 1 1).toInt = _) (rfl : f.toInt = _) c_29
                refine lv_iload_n hx hb dX2_take_76 rfl (lv_at hl 1 rfl) ?_
                refine lv_aload_n hx hb dX2_take_77 rfl (lv_at hl 3 rfl) ?_
                refine h_geti (ci := 3) (C := RX3) (F := TX3) (N := 2) hx hb hts in3 hown hK hH (by decide) (rfl : kd 1 = 3) (by decide) rfl 1 (by decide) wd4 (fun _ h9 => h9) (by decide) rfl dX2_take_78 ?_
                refine sj_i (y := (i 1 1)) ((congrFun (hfr_j1 1 (by omega)) _).trans ((congrFun (up2_n _ _ (by omega)) _).trans ((congrFun (up2_n _ _ (by omega)) _).trans ((congrFun (up2_n _ _ (by omega)) _).trans (congrFun (up2_n _ _ (by omega)) _))))) ?_
                refine lv_icmp_ne (tgt := 88) hx hb dX2_take_81 (by decide) (fun c_31 => ?_) (fun c_31 => ?_)
                · skip
                  have h_32 := s_ne (rfl : f.toInt = _) (rfl : (i 1 1).toInt = _) c_31
                  refine lv_iconst (v := 0) hx hb dX2_take_88 (by decide) ?_
                  have hlv_33 : (0 : Int32).toInt = 0 := rfl
                  have hV_34 : ((0 : Int32).toInt = 1 ∧ prOK (lnL (i 2) 0 (i 1 1).toInt)) ∨ ((0 : Int32).toInt = 0 ∧ ¬ prOK (lnL (i 2) 0 (i 1 1).toInt)) := (tkI_end hi_lp_13_3 (by have h9 := hO_j1 (240 + 9 * j) 6; rw [bx_expr0 hj 6] at h9; exact h9.2) (by omega) (by omega) (by omega) (by omega) (by omega))
                  exact sj_zret hx hb hr hlocks (by decide +kernel) hS j1 ⟨hO_j1, (fun a ha => ((hfr_j1 a (by omega)).trans ((up2_n _ _ (by omega)).trans ((up2_n _ _ (by omega)).trans ((up2_n _ _ (by omega)).trans (up2_n _ _ (by omega))))))), ⟨by decide, by decide⟩, ⟨by omega, Or.inl (by omega)⟩, (fun h => absurd h (by decide)), hV_34⟩ hH (sj_Knil hK) (Nat.le_of_ble_eq_true rfl) (Nat.le_of_ble_eq_true rfl) dX2_take_89
                · skip
                  have h_35 := s_eq (rfl : f.toInt = _) (rfl : (i 1 1).toInt = _) c_31
                  refine lv_iconst (v := 1) hx hb dX2_take_84 (by decide) ?_
                  refine lv_goto (tgt := 89) hx hb dX2_take_85 (by decide) ?_
                  have hlv_36 : (1 : Int32).toInt = 1 := rfl
                  have h9 := hi_lp_13_1.resolve_left (by omega)
                  have h8 := h9.2.2.2.2.1
                  have bq : (0 : Int) ≤ (j1 (240 + 9 * j) 6).toInt ∧ (j1 (240 + 9 * j) 6).toInt ≤ 6 := by have h9 := hO_j1 (240 + 9 * j) 6; rw [bx_expr0 hj 6] at h9; exact h9
                  have hV_37 : ((1 : Int32).toInt = 1 ∧ prOK (lnL (i 2) 0 (i 1 1).toInt)) ∨ ((1 : Int32).toInt = 0 ∧ ¬ prOK (lnL (i 2) 0 (i 1 1).toInt)) := (tkI_end hi_lp_13_3 (by have h9 := hO_j1 (240 + 9 * j) 6; rw [bx_expr0 hj 6] at h9; exact h9.2) (by omega) (by omega) (by omega) (by omega) (by omega))
                  exact sj_zret hx hb hr hlocks (by decide +kernel) hS j1 ⟨hO_j1, (fun a ha => ((hfr_j1 a (by omega)).trans ((up2_n _ _ (by omega)).trans ((up2_n _ _ (by omega)).trans ((up2_n _ _ (by omega)).trans (up2_n _ _ (by omega))))))), ⟨by decide, by decide⟩, ⟨by omega, Or.inr (by omega)⟩, (fun _ => h9.2.2.2.2.2.2), hV_37⟩ hH (sj_Knil hK) (Nat.le_of_ble_eq_true rfl) (Nat.le_of_ble_eq_true rfl) dX2_take_89
              · skip
                have h_38 := s_nle (rfl : (i 1 1).toInt = _) (rfl : f.toInt = _) c_29
                refine lv_aload_n hx hb dX2_take_63 rfl (lv_at hl 2 rfl) ?_
                refine lv_aload_n hx hb dX2_take_64 rfl (lv_at hl 3 rfl) ?_
                refine lv_iload_n hx hb dX2_take_65 rfl (lv_at hl 1 rfl) ?_
                have hwt_39 : (j1 1 1).toInt = ((i 1 1) : Int32).toInt := congrArg Int32.toInt ((congrFun (hfr_j1 1 (by omega)) _).trans ((congrFun (up2_n _ _ (by omega)) _).trans ((congrFun (up2_n _ _ (by omega)) _).trans ((congrFun (up2_n _ _ (by omega)) _).trans (congrFun (up2_n _ _ (by omega)) _)))))
                refine x_calli (va_runV (As := [.ref (g 1), .int f]) (rest := []) ⟨hx, hb, hml, hown, hts⟩ (kv_takeElement l D g ka ad j1 r L d j f hO_j1 hR H.size (by first | omega | decide) (by first | omega | decide) (by first | omega | decide) (by first | omega | decide) (hi_lp_13_1.resolve_left (by omega))) (cwV 2 hts gX2_take_X2_takeElement rfl rfl rfl (by decide +kernel) ⟨(Nat.le_of_ble_eq_true rfl), (Nat.le_of_ble_eq_true rfl)⟩) (x_preV (q := (RX2, TX2, 11)) hH hK (q_obj (lt_nK (by omega)) (kd_expr (t := 0) hj (by decide)) (by decide)) rfl gxb (gxw hE hS (x_F hH hS hA))) rfl rfl hl.1 rfl (lv_room (Nat.le_of_ble_eq_true rfl)) dX2_take_66 ⟨(Nat.le_of_ble_eq_true rfl), (Nat.le_of_ble_eq_true rfl)⟩) hH hS hA rfl rfl (fun r_40 im_42 H locs hw_41 hH hS => ?_)
                have hH : sj_H D A (hwc g ka im_42 r L d) H := hH
                obtain ⟨hO_44, hfr_43, he_45, hx2_46⟩ := hw_41
                refine lv_istore_n (lv' := [(2, .int r_40), (3, .int u), (0, .ref (g (240 + 9 * j))), (1, .ref (g 1))]) hx hb dX2_take_69 rfl hl (by decide) rfl (fun ls hl => ?_)
                obtain ⟨z_47, ez_47, hz_47⟩ := s_add (rfl : u.toInt = _) (show (1 : Int32).toInt = 1 from rfl) (by omega) (by omega)
                refine lv_iinc (v := z_47) (lv' := [(3, .int z_47), (2, .int r_40), (0, .ref (g (240 + 9 * j))), (1, .ref (g 1))]) hx hb dX2_take_70 hl (k := 1) rfl ez_47 (by decide) rfl (fun ls hl => ?_)
                refine lv_goto (tgt := 45) hx hb dX2_take_73 (by decide) ?_
                have hq6_48 : (im_42 (240 + 9 * j) 6).toInt = ((im_42 (240 + 9 * j) 6) : Int32).toInt := congrArg Int32.toInt (rfl)
                have hte := hx2_46
                rw [show j1 2 = i 2 from ((hfr_j1 2 (by omega)).trans ((up2_n _ _ (by omega)).trans ((up2_n _ _ (by omega)).trans ((up2_n _ _ (by omega)).trans (up2_n _ _ (by omega)))))), show j1 1 1 = i 1 1 from ((congrFun (hfr_j1 1 (by omega)) _).trans ((congrFun (up2_n _ _ (by omega)) _).trans ((congrFun (up2_n _ _ (by omega)) _).trans ((congrFun (up2_n _ _ (by omega)) _).trans (congrFun (up2_n _ _ (by omega)) _)))))] at hte
                exact ih_lp_13 r_40 z_47 _ _ _ ls (by omega) (by omega) (by omega) (by omega) (he_45.2.imp id (fun h => h.2.2)) (by omega) (tkI_s hi_lp_13_3 (by omega) (by omega) hte) hO_44 (fun a ha => ((hfr_43 a (by omega)).trans (hfr_j1 a (by omega)))) (lv_sub hl [0, 1, 2, 3] rfl) hH hS
      have hl_49 : (0 : Int32).toInt = 0 := rfl
      have hl_50 : (0 : Int32).toInt = 0 := rfl
      have hzz : (0 : Int32).toInt = 0 := rfl
      have hf2 : (up2 (up2 (up2 (up2 i (240 + 9 * j) 5 0) (240 + 9 * j) 2 0) (240 + 9 * j + 2) 1 0) (240 + 9 * j) 6 0) (240 + 9 * j) 2 = 0 := ((up2_k _ _ (by decide)).trans ((congrFun (up2_n _ _ (by omega)) _).trans (up2_at _ _ _ _)))
      have hf2i := congrArg Int32.toInt hf2
      have hf5 : (up2 (up2 (up2 (up2 i (240 + 9 * j) 5 0) (240 + 9 * j) 2 0) (240 + 9 * j + 2) 1 0) (240 + 9 * j) 6 0) (240 + 9 * j) 5 = 0 := ((up2_k _ _ (by decide)).trans ((congrFun (up2_n _ _ (by omega)) _).trans ((up2_k _ _ (by decide)).trans (up2_at _ _ _ _))))
      have hf5i := congrArg Int32.toInt hf5
      have hf6 : (up2 (up2 (up2 (up2 i (240 + 9 * j) 5 0) (240 + 9 * j) 2 0) (240 + 9 * j + 2) 1 0) (240 + 9 * j) 6 0) (240 + 9 * j) 6 = 0 := (up2_at _ _ _ _)
      have hf6i := congrArg Int32.toInt hf6
      have hkC : kC (up2 (up2 (up2 (up2 i (240 + 9 * j) 5 0) (240 + 9 * j) 2 0) (240 + 9 * j + 2) 1 0) (240 + 9 * j) 6 0) j = (0 : Int32).toInt := by unfold kC; rw [hf2, show ((0 : Int32).toInt + 1).toNat = 1 by omega]; exact congrArg Int32.toInt (((congrFun (up2_n _ _ (by omega)) _).trans (up2_at _ _ _ _)))
      have hkB : kB (up2 (up2 (up2 (up2 i (240 + 9 * j) 5 0) (240 + 9 * j) 2 0) (240 + 9 * j + 2) 1 0) (240 + 9 * j) 6 0) j = ((i (240 + 9 * j + 2) 0) : Int32).toInt := by unfold kB; rw [hf2, show ((0 : Int32).toInt).toNat = 0 by omega]; exact congrArg Int32.toInt (((congrFun (up2_n _ _ (by omega)) _).trans ((up2_k _ _ (by decide)).trans ((congrFun (up2_n _ _ (by omega)) _).trans (congrFun (up2_n _ _ (by omega)) _)))))
      have hiC : kC i j = (i (240 + 9 * j + 2) ((i (240 + 9 * j) 2).toInt + 1).toNat).toInt := rfl
      have hiB : kB i j = (i (240 + 9 * j + 2) ((i (240 + 9 * j) 2).toInt).toNat).toInt := rfl
      have hf0 : ((up2 (up2 (up2 (up2 i (240 + 9 * j) 5 0) (240 + 9 * j) 2 0) (240 + 9 * j + 2) 1 0) (240 + 9 * j) 6 0) (240 + 9 * j + 2) 0).toInt = ((i (240 + 9 * j + 2) 0) : Int32).toInt := congrArg Int32.toInt (((congrFun (up2_n _ _ (by omega)) _).trans ((up2_k _ _ (by decide)).trans ((congrFun (up2_n _ _ (by omega)) _).trans (congrFun (up2_n _ _ (by omega)) _)))))
      have hz0 : cn (up2 (up2 (up2 (up2 i (240 + 9 * j) 5 0) (240 + 9 * j) 2 0) (240 + 9 * j + 2) 1 0) (240 + 9 * j) 6 0) j = 0 := by unfold cn; rw [hf5]; rfl
      have hq6_51 : ((up2 (up2 (up2 (up2 i (240 + 9 * j) 5 0) (240 + 9 * j) 2 0) (240 + 9 * j + 2) 1 0) (240 + 9 * j) 6 0) (240 + 9 * j) 6).toInt = (0 : Int32).toInt := congrArg Int32.toInt ((up2_at _ _ _ _))
      exact lp_13 _ 0 0 _ _ _ ls (Nat.lt_succ_self _) (by omega) (by omega) (by omega) (Or.inr ⟨by omega, by omega, by omega, by omega, by omega, by omega, ⟨fun c hc => by omega, fun e h1 h2 => by omega⟩⟩) (by omega) (tkI_0 (by first | rfl | omega) (by first | rfl | omega) (by omega)) hO_4 (fun a ha => rfl) (lv_sub hl [0, 1, 2, 3] rfl) hH hS
    · skip
      have h_52 := s_nle (rfl : (i 1 1).toInt = _) (show (60 : Int32).toInt = 60 from rfl) c_11
      refine lv_iconst (v := 0) hx hb dX2_take_39 (by decide) ?_
      have hlv_53 : (0 : Int32).toInt = 0 := rfl
      have hzz : (0 : Int32).toInt = 0 := rfl
      have hf2 : (up2 (up2 (up2 (up2 i (240 + 9 * j) 5 0) (240 + 9 * j) 2 0) (240 + 9 * j + 2) 1 0) (240 + 9 * j) 6 0) (240 + 9 * j) 2 = 0 := ((up2_k _ _ (by decide)).trans ((congrFun (up2_n _ _ (by omega)) _).trans (up2_at _ _ _ _)))
      have hf2i := congrArg Int32.toInt hf2
      have hf5 : (up2 (up2 (up2 (up2 i (240 + 9 * j) 5 0) (240 + 9 * j) 2 0) (240 + 9 * j + 2) 1 0) (240 + 9 * j) 6 0) (240 + 9 * j) 5 = 0 := ((up2_k _ _ (by decide)).trans ((congrFun (up2_n _ _ (by omega)) _).trans ((up2_k _ _ (by decide)).trans (up2_at _ _ _ _))))
      have hf5i := congrArg Int32.toInt hf5
      have hf6 : (up2 (up2 (up2 (up2 i (240 + 9 * j) 5 0) (240 + 9 * j) 2 0) (240 + 9 * j + 2) 1 0) (240 + 9 * j) 6 0) (240 + 9 * j) 6 = 0 := (up2_at _ _ _ _)
      have hf6i := congrArg Int32.toInt hf6
      have hkC : kC (up2 (up2 (up2 (up2 i (240 + 9 * j) 5 0) (240 + 9 * j) 2 0) (240 + 9 * j + 2) 1 0) (240 + 9 * j) 6 0) j = (0 : Int32).toInt := by unfold kC; rw [hf2, show ((0 : Int32).toInt + 1).toNat = 1 by omega]; exact congrArg Int32.toInt (((congrFun (up2_n _ _ (by omega)) _).trans (up2_at _ _ _ _)))
      have hkB : kB (up2 (up2 (up2 (up2 i (240 + 9 * j) 5 0) (240 + 9 * j) 2 0) (240 + 9 * j + 2) 1 0) (240 + 9 * j) 6 0) j = ((i (240 + 9 * j + 2) 0) : Int32).toInt := by unfold kB; rw [hf2, show ((0 : Int32).toInt).toNat = 0 by omega]; exact congrArg Int32.toInt (((congrFun (up2_n _ _ (by omega)) _).trans ((up2_k _ _ (by decide)).trans ((congrFun (up2_n _ _ (by omega)) _).trans (congrFun (up2_n _ _ (by omega)) _)))))
      have hiC : kC i j = (i (240 + 9 * j + 2) ((i (240 + 9 * j) 2).toInt + 1).toNat).toInt := rfl
      have hiB : kB i j = (i (240 + 9 * j + 2) ((i (240 + 9 * j) 2).toInt).toNat).toInt := rfl
      have hf0 : ((up2 (up2 (up2 (up2 i (240 + 9 * j) 5 0) (240 + 9 * j) 2 0) (240 + 9 * j + 2) 1 0) (240 + 9 * j) 6 0) (240 + 9 * j + 2) 0).toInt = ((i (240 + 9 * j + 2) 0) : Int32).toInt := congrArg Int32.toInt (((congrFun (up2_n _ _ (by omega)) _).trans ((up2_k _ _ (by decide)).trans ((congrFun (up2_n _ _ (by omega)) _).trans (congrFun (up2_n _ _ (by omega)) _)))))
      have hV_54 : ((0 : Int32).toInt = 1 ∧ prOK (lnL (i 2) 0 (i 1 1).toInt)) ∨ ((0 : Int32).toInt = 0 ∧ ¬ prOK (lnL (i 2) 0 (i 1 1).toInt)) := (Or.inr ⟨by omega, prOK_no (by omega) (by omega)⟩)
      exact sj_zret hx hb hr hlocks (by decide +kernel) hS (up2 (up2 (up2 (up2 i (240 + 9 * j) 5 0) (240 + 9 * j) 2 0) (240 + 9 * j + 2) 1 0) (240 + 9 * j) 6 0) ⟨hO_4, (fun a ha => ((up2_n _ _ (by omega)).trans ((up2_n _ _ (by omega)).trans ((up2_n _ _ (by omega)).trans (up2_n _ _ (by omega)))))), ⟨by decide, by decide⟩, ⟨by omega, Or.inl (by omega)⟩, (fun h => absurd h (by decide)), hV_54⟩ hH (sj_Knil hK) (Nat.le_of_ble_eq_true rfl) (Nat.le_of_ble_eq_true rfl) dX2_take_40
