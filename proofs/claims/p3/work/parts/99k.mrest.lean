section MRST
variable {i u : Nat → Nat → Int32} {d d' : Nat → Nat → UInt64} {c : Nat}
theorem mwr_1 {n : Int} (hm : 0 ≤ mcs i c) (h0 : 0 ≤ n) : 1 ≤ mwrF i c n := by
  unfold mwrF
  by_cases q : n < 8
  · rw [if_pos q]
    have := cnl_up (P := mdP i 1 c) (a := n.toNat) (b := 8) (by omega)
    omega
  · rw [if_neg q]
    by_cases q2 : n < 100
    · rw [if_pos q2]
      by_cases q3 : n - 8 ≤ mcs i c
      · rw [if_pos q3]; omega
      · rw [if_neg q3]; omega
    · rw [if_neg q2]; omega
theorem mcM_2 (hm : 0 ≤ mcs i c) : 2 ≤ mcM i c := by unfold mcM; omega
theorem mcf_0 (hO : OkI i) (c : Nat) : 0 ≤ mcf i c := by
  have h := mcM_2 (mcs_r hO c).1
  unfold mcf
  split <;> omega
theorem urS_0 {f : Nat → Int} (h : ∀ c, 0 ≤ f c) : ∀ n u : Nat, 0 ≤ urS f n u
  | 0, _ => Int.le_refl _
  | n + 1, u => by
    have h1 := h u
    have h2 := urS_0 h n (u + 1)
    show 0 ≤ f u + urS f n (u + 1)
    omega
theorem murem_0 (hO : OkI i) (v : Int) : 0 ≤ murem i v := urS_0 (mcf_0 hO) _ _
theorem murem_e {v : Int} (h : (i 36 33).toInt ≤ v) : murem i v = 0 := by
  unfold murem
  rw [show ((i 36 33).toInt - v).toNat = 0 by omega]
  rfl
theorem murem_n {v : Int} (h0 : 0 ≤ v) (h1 : v < (i 36 33).toInt) (hs : skE (mcw i) v (i 36 33).toInt) : murem i v = mcM i v.toNat + murem i (v + 1) := by
  rw [mur_s h0 h1 rfl]
  unfold mcf
  rw [if_pos (hs h1)]
/-- what a worker still has to do -/
def mw1 (i : Nat → Nat → Int32) (x : Nat) : Int := if (i 427 x).toInt < 0 then 0 else mwrF i (i 427 x).toInt.toNat (i 428 x).toInt
theorem mw1_or (hO : OkI i) (x : Nat) : ((i 427 x).toInt < 0 ∧ mw1 i x = 0) ∨ (0 ≤ (i 427 x).toInt ∧ 1 ≤ mw1 i x ∧ mw1 i x = mwrF i (i 427 x).toInt.toNat (i 428 x).toInt) := by
  unfold mw1
  by_cases q : (i 427 x).toInt < 0
  · rw [if_pos q]; exact Or.inl ⟨q, rfl⟩
  · rw [if_neg q]
    have h8 : (0 : Int) ≤ (i 428 x).toInt ∧ (i 428 x).toInt ≤ 108 := hO 428 x
    exact Or.inr ⟨by omega, mwr_1 (mcs_r hO _).1 h8.1, rfl⟩
def mrest (i : Nat → Nat → Int32) : Int := murem i (i 36 79).toInt + mw1 i 0 + mw1 i 1 + mw1 i 2
/-- a run that goes on, or has just come to its end -/
def MU (i : Nat → Nat → Int32) (d : Nat → Nat → UInt64) : Prop := (1 ≤ (i 36 77).toInt ∧ (i 36 79).toInt ≤ (i 36 33).toInt) ∧ skE (mcw i) (i 36 79).toInt (i 36 33).toInt ∧ (∀ x : Nat, x < 3 → (i 36 77).toInt ≤ (x : Int) → (i 427 x).toInt < 0) ∧ ∀ x : Nat, x < 3 → (0 ≤ (i 427 x).toInt ∧ (i 429 x).toInt = 0) → dfin (d 425 x)
/-- what a run doesn't change -/
def mxE (i u : Nat → Nat → Int32) : Prop := (mwrF u = mwrF i ∧ mcw u = mcw i ∧ mcM u = mcM i) ∧ u 36 33 = i 36 33 ∧ u 36 77 = i 36 77
theorem mxE_refl (i : Nat → Nat → Int32) : mxE i i := ⟨⟨rfl, rfl, rfl⟩, rfl, rfl⟩
theorem mxE_t {v : Nat → Nat → Int32} (h : mxE i u) (g : mxE u v) : mxE i v := ⟨⟨g.1.1.trans h.1.1, g.1.2.1.trans h.1.2.1, g.1.2.2.trans h.1.2.2⟩, g.2.1.trans h.2.1, g.2.2.trans h.2.2⟩
theorem mxE_of (e : ldE i u) (e33 : u 36 33 = i 36 33) (e67 : u 36 67 = i 36 67) (e77 : u 36 77 = i 36 77) (e4 : u 400 = i 400) (e0 : u 420 = i 420) (e6 : u 416 = i 416) (e7 : u 417 = i 417) : mxE i u := by
  have h1 : mdP u = mdP i := funext fun b => funext fun c => funext fun h => by unfold mdP; rw [e4, mdue_fr e67 e0 e6 e7]
  have h2 : mcs u = mcs i := funext fun c => mcs_ld e c
  exact ⟨⟨funext fun c => funext fun n => by unfold mwrF; rw [h1, h2], mcw_fr e4 e6 e7, funext fun c => by unfold mcM; rw [h1, h2]⟩, e33, e77⟩
theorem murem_x (h : mxE i u) (v : Int) : murem u v = murem i v := by
  have h1 : mcf u = mcf i := funext fun c => by unfold mcf; rw [h.1.2.1, h.1.2.2]
  unfold murem
  rw [h1, h.2.1]
theorem MU_same (h : mxE i u) (e79 : u 36 79 = i 36 79) (e7 : u 427 = i 427) (e8 : u 428 = i 428) (e9 : u 429 = i 429) (hM : MU i d) : MU u d ∧ mrest u = mrest i := by
  refine ⟨⟨by rw [h.2.2, e79, h.2.1]; exact hM.1, by rw [h.1.2.1, e79, h.2.1]; exact hM.2.1, by rw [h.2.2, e7]; exact hM.2.2.1, by rw [e7, e9]; exact hM.2.2.2⟩, ?_⟩
  unfold mrest mw1
  rw [murem_x h, e79, e7, e8, h.1.1]
theorem mgo_step {x : Nat} (hO : OkI i) (hM : MU i d) (hx : x < 3) (hxw : (x : Int) < (i 36 77).toInt) (hact : mvH i x) (hE : mxE i u) (h7 : rwO 427 i u x) (h8 : rwO 428 i u x) (h9 : rwO 429 i u x) (hw : ∀ k : Nat, k ≠ x → d' 425 k = d 425 k) (hf : (0 ≤ (u 427 x).toInt ∧ (u 429 x).toInt = 0) → dfin (d' 425 x)) (hab : mvA i u x ∨ mvB i u x) : MU u d' ∧ mrest u + 1 = mrest i := by
  have b79 : (0 : Int) ≤ (i 36 79).toInt ∧ (i 36 79).toInt ≤ 24 := hO 36 79
  have hs : ∀ a : Nat, a ≠ x → mw1 u a = mw1 i a := fun a ha => by unfold mw1; rw [h7 a ha, h8 a ha, hE.1.1]
  have hp : ((u 36 79).toInt ≤ (i 36 33).toInt ∧ skE (mcw i) (u 36 79).toInt (i 36 33).toInt) ∧ murem u (u 36 79).toInt + mw1 u x + 1 = murem i (i 36 79).toInt + mw1 i x := by
    rw [murem_x hE]
    rcases hab with ⟨a1, a2, a3, a4, a5, a6⟩ | ⟨b1, b2, b3⟩
    · have hu := hact a1
      refine ⟨⟨a4, a6⟩, ?_⟩
      have e1 : mw1 i x = 0 := by unfold mw1; rw [if_pos a1]
      have e2 : mw1 u x = mcM i (i 36 79).toInt.toNat - 1 := by
        unfold mw1
        rw [if_neg (by omega), hE.1.1, a2, a3, mwr_0]
      have e3 := murem_n b79.1 hu hM.2.1
      have a51 := a5.1
      have e4 := mur_sk (i := i) (u := (i 36 79).toInt + 1) (by omega) ((u 36 79).toInt - ((i 36 79).toInt + 1)).toNat (by omega) (by rw [show (i 36 79).toInt + 1 + (((u 36 79).toInt - ((i 36 79).toInt + 1)).toNat : Int) = (u 36 79).toInt by omega]; exact a5)
      rw [show (i 36 79).toInt + 1 + (((u 36 79).toInt - ((i 36 79).toInt + 1)).toNat : Int) = (u 36 79).toInt by omega] at e4
      omega
    · refine ⟨⟨by have := hM.1.2; omega, by rw [b2]; exact hM.2.1⟩, ?_⟩
      have e1 : mw1 i x = mwrF i (i 427 x).toInt.toNat (i 428 x).toInt := by unfold mw1; rw [if_neg (by omega)]
      rw [b2]
      rcases b3 with ⟨c1, c2⟩ | ⟨c1, c2⟩
      · have e2 : mw1 u x = mwrF i (i 427 x).toInt.toNat (u 428 x).toInt := by unfold mw1; rw [if_neg (by omega), hE.1.1, c1]
        omega
      · have e2 : mw1 u x = 0 := by unfold mw1; rw [if_pos c1]
        omega
  obtain ⟨⟨p1, p2⟩, p3⟩ := hp
  refine ⟨⟨⟨by rw [hE.2.2]; exact hM.1.1, by rw [hE.2.1]; exact p1⟩, by rw [hE.1.2.1, hE.2.1]; exact p2, fun a ha hg => ?_, fun a ha hg => ?_⟩, ?_⟩
  · rw [hE.2.2] at hg
    rw [h7 a (by omega)]
    exact hM.2.2.1 a ha hg
  · by_cases q : a = x
    · subst q; exact hf hg
    · rw [h7 a q, h9 a q] at hg
      rw [hw a q]; exact hM.2.2.2 a ha hg
  · unfold mrest
    rcases (show x = 0 ∨ x = 1 ∨ x = 2 by omega) with rfl | rfl | rfl
    · rw [hs 1 (by omega), hs 2 (by omega)]; omega
    · rw [hs 0 (by omega), hs 2 (by omega)]; omega
    · rw [hs 0 (by omega), hs 1 (by omega)]; omega
theorem lvB_f : ∀ n : Nat, lvB i n = false → (i 36 33).toInt ≤ (i 36 79).toInt ∧ ∀ x : Nat, x < n → (i 427 x).toInt < 0
  | 0, h => by
    unfold lvB at h
    have := of_decide_eq_false h
    exact ⟨by omega, fun x hx => by omega⟩
  | n + 1, h => by
    unfold lvB at h
    rw [Bool.or_eq_false_iff] at h
    have h1 := lvB_f n h.1
    have h2 := of_decide_eq_false h.2
    refine ⟨h1.1, fun x hx => ?_⟩
    by_cases q : x = n
    · subst q; omega
    · exact h1.2 x (by omega)
theorem lvB_t : ∀ n : Nat, lvB i n = true → (i 36 79).toInt < (i 36 33).toInt ∨ ∃ x : Nat, x < n ∧ 0 ≤ (i 427 x).toInt
  | 0, h => by
    unfold lvB at h
    exact Or.inl (of_decide_eq_true h)
  | n + 1, h => by
    unfold lvB at h
    rcases (Bool.or_eq_true _ _).mp h with h | h
    · rcases lvB_t n h with h | ⟨x, h1, h2⟩
      · exact Or.inl h
      · exact Or.inr ⟨x, by omega, h2⟩
    · exact Or.inr ⟨n, by omega, of_decide_eq_true h⟩
theorem mgo_end (hO : OkI i) (hM : MU i d) : (lvB i (i 36 77).toInt.toNat = false → (∀ x : Nat, x < 3 → (i 427 x).toInt < 0) ∧ mrest i = 0) ∧ (lvB i (i 36 77).toInt.toNat = true → 1 ≤ mrest i) := by
  have b79 : (0 : Int) ≤ (i 36 79).toInt ∧ (i 36 79).toInt ≤ 24 := hO 36 79
  have b77 : (0 : Int) ≤ (i 36 77).toInt ∧ (i 36 77).toInt ≤ 3 := hO 36 77
  have a0 := mw1_or hO 0
  have a1 := mw1_or hO 1
  have a2 := mw1_or hO 2
  have hr : mrest i = murem i (i 36 79).toInt + mw1 i 0 + mw1 i 1 + mw1 i 2 := rfl
  have h0 := murem_0 hO (i 36 79).toInt
  refine ⟨fun h => ?_, fun h => ?_⟩
  · obtain ⟨h1, h2⟩ := lvB_f _ h
    have hs : ∀ x : Nat, x < 3 → (i 427 x).toInt < 0 := fun x hx => by
      by_cases q : x < (i 36 77).toInt.toNat
      · exact h2 x q
      · exact hM.2.2.1 x hx (by omega)
    have e := murem_e h1
    have s0 := hs 0 (by omega)
    have s1 := hs 1 (by omega)
    have s2 := hs 2 (by omega)
    exact ⟨hs, by omega⟩
  · rcases lvB_t _ h with g | ⟨x, g1, g2⟩
    · have e := murem_n b79.1 g hM.2.1
      have e1 := mcM_2 (mcs_r hO (i 36 79).toInt.toNat).1
      have e2 := murem_0 hO ((i 36 79).toInt + 1)
      omega
    · rcases (show x = 0 ∨ x = 1 ∨ x = 2 by omega) with rfl | rfl | rfl <;> omega
/-- between calls: no run is under way, or one that isn't over -/
def MI (i : Nat → Nat → Int32) (d : Nat → Nat → UInt64) : Prop := ((i 36 76).toInt = 0 ∧ (∀ x : Nat, x < 3 → (i 427 x).toInt < 0)) ∨ ((i 36 76).toInt = 1 ∧ MU i d ∧ (i 36 78).toInt < (i 36 77).toInt ∧ 1 ≤ mrest i)
theorem MI_set {n : Nat} (hO : OkI i) (hn : n = (i 36 77).toInt.toNat) (h : mxE i u) (e79 : u 36 79 = i 36 79) (e7 : u 427 = i 427) (e8 : u 428 = i 428) (e9 : u 429 = i 429) (hM : MU i d) (ht : (u 36 78).toInt < (u 36 77).toInt) (h1 : (i 36 76).toInt = 1) (h76 : (u 36 76).toInt = if lvB i n = true then (i 36 76).toInt else 0) : MI u d ∧ mrest u = mrest i ∧ ((0 < mrest u ∧ (u 36 76).toInt = 1) ∨ (mrest u ≤ 0 ∧ (u 36 76).toInt = 0)) ∧ 0 ≤ mrest u := by
  subst hn
  have hs := MU_same h e79 e7 e8 e9 hM
  have he := mgo_end hO hM
  rw [hs.2]
  cases hb : lvB i (i 36 77).toInt.toNat with
  | true =>
    have g := he.2 hb
    rw [hb, if_pos rfl] at h76
    exact ⟨Or.inr ⟨by omega, hs.1, ht, by rw [hs.2]; exact g⟩, rfl, Or.inl ⟨by omega, by omega⟩, by omega⟩
  | false =>
    have g := he.1 hb
    rw [hb, if_neg (by decide)] at h76
    exact ⟨Or.inl ⟨h76, by rw [e7]; exact g.1⟩, rfl, Or.inr ⟨by omega, by omega⟩, by omega⟩
theorem MI_same (h : mxE i u) (e76 : u 36 76 = i 36 76) (e78 : u 36 78 = i 36 78) (e79 : u 36 79 = i 36 79) (e7 : u 427 = i 427) (e8 : u 428 = i 428) (e9 : u 429 = i 429) (hM : MI i d) : MI u d ∧ mrest u = mrest i := by
  have hr : mrest u = mrest i := by unfold mrest mw1; rw [murem_x h, e79, e7, e8, h.1.1]
  refine ⟨?_, hr⟩
  rcases hM with ⟨h1, h2⟩ | ⟨h1, h2, h3, h4⟩
  · exact Or.inl ⟨by rw [e76]; exact h1, by rw [e7]; exact h2⟩
  · exact Or.inr ⟨by rw [e76]; exact h1, (MU_same h e79 e7 e8 e9 h2).1, by rw [e78, h.2.2]; exact h3, by rw [hr]; exact h4⟩
theorem mgo_in (h76 : (u 36 76).toInt = (i 36 76).toInt) (hr : mrest u = mrest i) (hM : MI i d) : (((i 36 76).toInt = 0 ∧ (0 : Int) = 0 ∧ (u 36 76).toInt = 0) ∨ ((i 36 76).toInt = 1 ∧ ((u 36 76).toInt = 1 → (mrest u + 0 = mrest i ∧ 1 ≤ mrest u)) ∧ ((u 36 76).toInt = 0 → (0 : Int) = mrest i))) := by
  rcases hM with ⟨h1, h2⟩ | ⟨h1, h2, h3, h4⟩
  · exact Or.inl ⟨h1, rfl, by omega⟩
  · exact Or.inr ⟨h1, fun _ => ⟨by omega, by omega⟩, fun q => by omega⟩
/-- the turn goes on past workers without a case -/
def tnI (i : Nat → Nat → Int32) (w t0 s t : Int) : Prop := t = (t0 + s) % w ∧ ∀ k : Nat, (k : Int) < s → (i 427 ((t0 + k) % w).toNat).toInt < 0
theorem tnI_0 {w t0 : Int} (h0 : 0 ≤ t0) (h1 : t0 < w) : tnI i w t0 0 t0 := ⟨by rw [Int.add_zero, Int.emod_eq_of_lt h0 h1], fun k hk => by omega⟩
theorem tnI_s {w t0 s t s' t' : Int} (h : tnI i w t0 s t) (hs : 0 ≤ s) (h3 : 1 ≤ w ∧ w ≤ 3) (hj : (i 427 t.toNat).toInt < 0) (e : t' = (t + 1) % w) (es : s' = s + 1) : tnI i w t0 s' t' := by
  obtain ⟨h1, h2⟩ := h
  subst es
  refine ⟨?_, fun k hk => ?_⟩
  · rw [e, h1]
    rcases (show w = 1 ∨ w = 2 ∨ w = 3 by omega) with rfl | rfl | rfl <;> omega
  · by_cases q : (k : Int) < s
    · exact h2 k q
    · rw [show (k : Int) = s by omega, ← h1]; exact hj
theorem tnI_3 {w t0 t : Int} (h : tnI i w t0 3 t) (h3 : 1 ≤ w ∧ w ≤ 3) (h0 : 0 ≤ t0) (h1 : t0 < w) : ∀ x : Nat, (x : Int) < w → (i 427 x).toInt < 0 := by
  intro x hx
  have g0 := h.2 0 (by omega)
  have g1 := h.2 1 (by omega)
  have g2 := h.2 2 (by omega)
  have hk : ∃ k : Nat, (k : Int) < 3 ∧ ((t0 + k) % w).toNat = x := by
    rcases (show w = 1 ∨ w = 2 ∨ w = 3 by omega) with rfl | rfl | rfl
    · exact ⟨0, by omega, by omega⟩
    · by_cases q : (t0 + (0 : Nat)) % 2 = (x : Int)
      · exact ⟨0, by omega, by omega⟩
      · exact ⟨1, by omega, by omega⟩
    · by_cases q : (t0 + (0 : Nat)) % 3 = (x : Int)
      · exact ⟨0, by omega, by omega⟩
      · by_cases q2 : (t0 + (1 : Nat)) % 3 = (x : Int)
        · exact ⟨1, by omega, by omega⟩
        · exact ⟨2, by omega, by omega⟩
  obtain ⟨k, hk1, hk2⟩ := hk
  have := h.2 k hk1
  rw [hk2] at this
  exact this
theorem modr {a w : Int} (h : 1 ≤ w ∧ w ≤ 3) : 0 ≤ a % w ∧ a % w < w ∧ a % w ≤ 2 := by
  have h1 := Int.emod_nonneg a (show w ≠ 0 by omega)
  have h2 := Int.emod_lt_of_pos a (show 0 < w by omega)
  exact ⟨h1, h2, by omega⟩
/-- the worker whose turn it is has a case, or may take one -/
theorem tnI_m {w t0 s t : Int} (hO : OkI i) (hM : MU i d) (hr : 1 ≤ mrest i) (h : tnI i w t0 s t) (hw : w = (i 36 77).toInt) (h0 : 0 ≤ t0) (h1 : t0 < w) (hs : s ≤ 0 ∨ (i 36 79).toInt = (i 36 33).toInt) (hx : 3 ≤ s ∧ s ≤ 3 ∨ (0 ≤ (i 427 t.toNat).toInt ∨ (i 36 79).toInt ≠ (i 36 33).toInt)) : mvH i t.toNat := by
  have b77 : (0 : Int) ≤ (i 36 77).toInt ∧ (i 36 77).toInt ≤ 3 := hO 36 77
  have hM1 := hM.1
  intro q
  rcases hx with hx | hx | hx
  · exfalso
    have e : s = 3 := by omega
    subst e
    have g := tnI_3 h (by omega) h0 h1
    have e := murem_e (i := i) (v := (i 36 79).toInt) (by omega)
    have a0 := mw1_or hO 0
    have a1 := mw1_or hO 1
    have a2 := mw1_or hO 2
    have hs9 : ∀ x : Nat, x < 3 → (i 427 x).toInt < 0 := fun x hx => by
      by_cases q : (x : Int) < (i 36 77).toInt
      · exact g x (by omega)
      · exact hM.2.2.1 x hx (by omega)
    have s0 := hs9 0 (by omega)
    have s1 := hs9 1 (by omega)
    have s2 := hs9 2 (by omega)
    have hr9 : mrest i = murem i (i 36 79).toInt + mw1 i 0 + mw1 i 1 + mw1 i 2 := rfl
    omega
  · omega
  · omega
end MRST
