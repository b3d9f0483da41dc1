set_option maxRecDepth 100000 in
/-- what the tables say of the classes -/
theorem sj_kn {s : State} {args : Array Value} (hts : ∀ w ∈ wsL_law, w.before args s = true) : ∃ D : va_G, va_K D vwCl [] s := by
  have hk : ∀ c : Nat, ∃ (cC : ClassId) (iS : Nat → Nat), ∀ q, vwCl[c]? = some q → u_Kn s q.1 q.2.1 q.2.2 cC iS := by
    have k0 := u_known (C := RX0) (T := TX0) (N := 5) hts inlX0 (hts (.instantiable RX0 5) (by decide +kernel))
    have k1 := u_known (C := RX1) (T := TX1) (N := 5) hts inlX1 (hts (.instantiable RX1 5) (by decide +kernel))
    have k2 := u_known (C := RX2) (T := TX2) (N := 11) hts inlX2 (hts (.instantiable RX2 11) (by decide +kernel))
    have k3 := u_known (C := RX3) (T := TX3) (N := 2) hts inlX3 (hts (.instantiable RX3 2) (by decide +kernel))
    have k4 := u_known (C := RX4) (T := TX4) (N := 9) hts inlX4 (hts (.instantiable RX4 9) (by decide +kernel))
    have k5 := u_known (C := RX5) (T := TX5) (N := 19) hts inlX5 (hts (.instantiable RX5 19) (by decide +kernel))
    have k6 := u_known (C := RX6) (T := TX6) (N := 4) hts inlX6 (hts (.instantiable RX6 4) (by decide +kernel))
    have k7 := u_known (C := RX7) (T := TX7) (N := 11) hts inlX7 (hts (.instantiable RX7 11) (by decide +kernel))
    have k8 := u_known (C := RX8) (T := TX8) (N := 3) hts inlX8 (hts (.instantiable RX8 3) (by decide +kernel))
    have k9 := u_known (C := RX9) (T := TX9) (N := 4) hts inlX9 (hts (.instantiable RX9 4) (by decide +kernel))
    have k10 := u_known (C := RX10) (T := TX10) (N := 8) hts inlX10 (hts (.instantiable RX10 8) (by decide +kernel))
    have k11 := u_known (C := RX11) (T := TX11) (N := 14) hts inlX11 (hts (.instantiable RX11 14) (by decide +kernel))
    have k12 := u_known (C := RX12) (T := TX12) (N := 86) hts inlX12 (hts (.instantiable RX12 86) (by decide +kernel))
    intro c
    match c with
    | 0 => obtain ⟨a, i, h⟩ := k0; exact ⟨a, i, fun q hq => by have e9 : some (RX0, TX0, 5) = some q := hq; cases e9; exact h⟩
    | 1 => obtain ⟨a, i, h⟩ := k1; exact ⟨a, i, fun q hq => by have e9 : some (RX1, TX1, 5) = some q := hq; cases e9; exact h⟩
    | 2 => obtain ⟨a, i, h⟩ := k2; exact ⟨a, i, fun q hq => by have e9 : some (RX2, TX2, 11) = some q := hq; cases e9; exact h⟩
    | 3 => obtain ⟨a, i, h⟩ := k3; exact ⟨a, i, fun q hq => by have e9 : some (RX3, TX3, 2) = some q := hq; cases e9; exact h⟩
    | 4 => obtain ⟨a, i, h⟩ := k4; exact ⟨a, i, fun q hq => by have e9 : some (RX4, TX4, 9) = some q := hq; cases e9; exact h⟩
    | 5 => obtain ⟨a, i, h⟩ := k5; exact ⟨a, i, fun q hq => by have e9 : some (RX5, TX5, 19) = some q := hq; cases e9; exact h⟩
    | 6 => obtain ⟨a, i, h⟩ := k6; exact ⟨a, i, fun q hq => by have e9 : some (RX6, TX6, 4) = some q := hq; cases e9; exact h⟩
    | 7 => obtain ⟨a, i, h⟩ := k7; exact ⟨a, i, fun q hq => by have e9 : some (RX7, TX7, 11) = some q := hq; cases e9; exact h⟩
    | 8 => obtain ⟨a, i, h⟩ := k8; exact ⟨a, i, fun q hq => by have e9 : some (RX8, TX8, 3) = some q := hq; cases e9; exact h⟩
    | 9 => obtain ⟨a, i, h⟩ := k9; exact ⟨a, i, fun q hq => by have e9 : some (RX9, TX9, 4) = some q := hq; cases e9; exact h⟩
    | 10 => obtain ⟨a, i, h⟩ := k10; exact ⟨a, i, fun q hq => by have e9 : some (RX10, TX10, 8) = some q := hq; cases e9; exact h⟩
    | 11 => obtain ⟨a, i, h⟩ := k11; exact ⟨a, i, fun q hq => by have e9 : some (RX11, TX11, 14) = some q := hq; cases e9; exact h⟩
    | 12 => obtain ⟨a, i, h⟩ := k12; exact ⟨a, i, fun q hq => by have e9 : some (RX12, TX12, 86) = some q := hq; cases e9; exact h⟩
    | n + 13 => obtain ⟨a, i, h⟩ := k0; exact ⟨a, i, fun q hq => by rw [List.getElem?_eq_none (show vwCl.length ≤ n + 13 from Nat.le_add_left 13 n)] at hq; cases hq⟩
  exact ⟨(fun c => (hk c).choose, fun c => (hk c).choose_spec.choose), fun c q hq => (hk c).choose_spec.choose_spec q hq, fun k q h => by simp at h⟩
set_option maxRecDepth 100000 in
theorem sj_xhof {X : String} {A : Nat → Prop} {s : State} {b : Nat} (h1 : vx_Zq Bundle.tN "UNASSIGNED_STACK" Bundle.steD A s s.heap) (h2 : vx_Zq Bundle.tN "SUPPRESSED_SENTINEL" Bundle.listD A s s.heap) (h3 : (Cond.castable X X).before #[Value.ref b] s = true) (h4 : (Cond.declares (Bundle.init0 "java/lang/RuntimeException")).before #[Value.ref b] s = true) (h5 : (Cond.declares (Bundle.init0 "java/lang/Exception")).before #[Value.ref b] s = true) (h6 : (Cond.declares (Bundle.init0 Bundle.tN)).before #[Value.ref b] s = true) (h7 : (Cond.not (.castable "java/lang/IllegalArgumentException" "java/lang/IllegalStateException")).before #[Value.ref b] s = true) : sj_xh X A s :=
  ⟨⟨h1, h2, va_Nw.of rfl h3, va_Nw.of rfl h4, va_Nw.of rfl h5, va_Nw.of rfl h6⟩, va_Nc.of h7⟩
set_option maxHeartbeats 4000000 in
set_option maxRecDepth 100000 in
theorem whole_start {p : Program} {e : Env} {s : State} {m : MethodId} {below : List Frame} {meth : Method} {c : Code} (l : Launch) (hl0 : l.stackTraces = false) {b L : Nat} {xs : Nat → Int32} (hL : L ≤ 6) (C0 : lw_At p s m meth c b L xs) : W p l e room_1 s m #[Value.ref b] below meth c s.heap [] 0 0 (lw_Z below #[Value.ref b] s) (entryFrame m ([Value.ref b] : List Value).toArray 9) := by
  obtain ⟨hx, hb, hr, hml, hown, htb, hX, hbl, hlocks, hgv⟩ := C0
  have hgs := flat_of_before _ hgv
  have hts : ∀ w ∈ wsL_law, w.before #[Value.ref b] s = true := fun w h => htb w (wsL_law_in w h)
  obtain ⟨D, hK⟩ := sj_kn hts
  obtain ⟨A, hAd⟩ : ∃ A : Nat → Prop, A = fun q => s.heap.size ≤ q := ⟨_, rfl⟩
  have hA : ∀ q, s.heap.size ≤ q → A q := by rw [hAd]; exact fun q h => h
  have hnA : ∀ a : Nat, a < s.heap.size → ¬ A a := by rw [hAd]; exact fun q h => Nat.not_le.mpr h
  have hE : sj_xc s := ⟨sj_ao (htb (.arrayOver (.object RX0)) (by decide +kernel)), sj_ao (htb (.arrayOver (.object RX2)) (by decide +kernel)), sj_ao (htb (.arrayOver (.object RX4)) (by decide +kernel)), sj_ao (htb (.arrayOver (.object RX6)) (by decide +kernel)), sj_ao (htb (.arrayOver (.object RX9)) (by decide +kernel)), sj_ao (htb (.arrayOver (.object RX10)) (by decide +kernel)), va_Nw.of rfl (htb (.methodLinkNest RX1 33 yX0_init "StoryDesk") (by decide +kernel)), va_Nw.of rfl (htb (.methodLinkNest RX5 33 yX4_init "StoryDesk") (by decide +kernel))⟩
  have hz1 : vx_Zq Bundle.tN "UNASSIGNED_STACK" Bundle.steD A s s.heap := vx_Zqof (htb (.laysStatic Bundle.tN "UNASSIGNED_STACK" Bundle.steD) (by decide +kernel)) (htb (.initialized Bundle.tN) (by decide +kernel)) (hgs (.isRef (.static Bundle.tN "UNASSIGNED_STACK" Bundle.steD)) (by decide +kernel)) hnA
  have hz2 : vx_Zq Bundle.tN "SUPPRESSED_SENTINEL" Bundle.listD A s s.heap := vx_Zqof (htb (.laysStatic Bundle.tN "SUPPRESSED_SENTINEL" Bundle.listD) (by decide +kernel)) (htb (.initialized Bundle.tN) (by decide +kernel)) (hgs (.isRef (.static Bundle.tN "SUPPRESSED_SENTINEL" Bundle.listD)) (by decide +kernel)) hnA
  have hd4 := htb (.declares (Bundle.init0 "java/lang/RuntimeException")) (by decide +kernel)
  have hd5 := htb (.declares (Bundle.init0 "java/lang/Exception")) (by decide +kernel)
  have hd6 := htb (.declares (Bundle.init0 Bundle.tN)) (by decide +kernel)
  have hnc := hgs (.not (.castable "java/lang/IllegalArgumentException" "java/lang/IllegalStateException")) (by decide +kernel)
  have hxI : sj_xh "java/lang/IndexOutOfBoundsException" A s := sj_xhof hz1 hz2 (htb (.castable "java/lang/IndexOutOfBoundsException" "java/lang/IndexOutOfBoundsException") (by decide +kernel)) hd4 hd5 hd6 hnc
  have hxA : sj_xh "java/lang/IllegalArgumentException" A s := sj_xhof hz1 hz2 (htb (.castable "java/lang/IllegalArgumentException" "java/lang/IllegalArgumentException") (by decide +kernel)) hd4 hd5 hd6 hnc
  have hxS : sj_xh "java/lang/IllegalStateException" A s := sj_xhof hz1 hz2 (htb (.castable "java/lang/IllegalStateException" "java/lang/IllegalStateException") (by decide +kernel)) hd4 hd5 hd6 hnc
  have hl := lv_entry [Value.ref b] (n := 9) (Nat.le_of_ble_eq_true rfl)
  rw [lg_entry_eq]
  exact sj_law hL hl0 hx hb hr hlocks hml hown hts hX hbl (hnA b hbl) hA hAd hE hxI hxA hxS hK hl
set_option maxHeartbeats 4000000 in
theorem lw_walk (l : Launch) (hl0 : l.stackTraces = false) (b : Addr) (xs : List Int32) : MetFree l x (headSpec (Jvm.Cond.code x code maxLocals ret :: tables_1) room_1) (lw_P b xs) (fun _ _ _ _ _ => True) lw_Q := by
  refine MetFree.of_bodyS (code := code) (maxLocals := maxLocals) (ret := ret) (by decide) ?_ ?_
  · intro args s m h hn
    obtain ⟨meth, c, h1, h2, h3, h4, h5, h6, -, -⟩ := Cond.code_spec hn (atoms_spec (ws := Jvm.Cond.code x code maxLocals ret :: tables_1) h _ List.mem_cons_self)
    exact ⟨meth, c, h1, h2, h3, h4, h5, h6⟩
  · intro p e s m args below meth c s₁ B hml0 hP _
    obtain ⟨rfl, hx, hbd, hgv⟩ := hP
    obtain ⟨scr, harrAt, hlist, hof, hsmall⟩ := hx
    obtain ⟨hcb, hkn, -, -⟩ := State.arrayAt?_spec harrAt
    have hown : s.vm.findClass R_law = some m.cls := findClass_of_methodNamed B.named
    have hts0 : ∀ c ∈ (Jvm.Cond.code x code maxLocals ret :: tables_1), c.before #[Value.ref b] s = true := atoms_spec (ws := Jvm.Cond.code x code maxLocals ret :: tables_1) B.pre
    have hts : ∀ w ∈ lw_tbl, w.before #[Value.ref b] s = true := k2_hts_sels lw_privs (fun w hw => hts0 w (List.mem_cons_of_mem _ hw)) lw_privs_ok
    have hml : c.maxLocals = 9 := B.maxLocals_eq (hts0 _ List.mem_cons_self)
    have X₀ : Stand p l e room_1 s m #[Value.ref b] below meth c s₁ [] 0 0 := Stand.of_body B
    have hh0 : s₁.heap = s.heap := by rw [B.state]; rfl
    have hsz : scr.slots.size = xs.length := by rw [← Array.length_toList, hlist, List.length_map]
    have hval : ∀ j : Nat, j < xs.length → scr.slots[j]? = some (.int (xs.getD j 0)) := fun j hj => by
      rw [← Array.getElem?_toList, hlist]
      simp [hj]
    have hbl : b < s.heap.size := (Array.getElem?_eq_some_iff.mp hcb).1
    have hX : va_X b xs.length (fun j => xs.getD j 0) s s.heap := ⟨scr, hcb, hof, hkn, hsz, hval⟩
    have K : W p l e room_1 s m #[Value.ref b] below meth c s₁.heap [] 0 0 (lw_Z below #[Value.ref b] s) (entryFrame m ([Value.ref b] : List Value).toArray 9) := by
      rw [hh0]
      exact whole_start l hl0 hbd ⟨B.exec, B.bytes, B.returns, hml, hown, hts, hX, hbl, B.notSynchronized, hgv⟩
    obtain ⟨t, a1, o, b1, b2, b3⟩ := K s₁ rfl X₀
    exact ⟨t, o, a1, b1, b2, b3⟩
theorem lw_pre_spec {args : Array Value} {s : State} (h : (Jvm.Cond.and given_1 narrow_1).before args s = true) (hr : rest_1_c.before args s = true) : ∃ (b : Addr) (xs : List Int32), lw_P b xs args s := by
  have hs := flat_of_before _ h
  have hq := flat_of_before _ hr
  have hc : (Cond.count 1).before args s = true := hs _ (by decide +kernel)
  have harr : (Cond.arrayOf (.arg 0) .int).before args s = true := hs _ (by decide +kernel)
  have hle : (Cond.le (.length (.arg 0)) (.int 6)).before args s = true := hs _ (by decide +kernel)
  have hlen : (Cond.isInt (.length (.arg 0))).before args s = true := hq _ (by decide +kernel)
  have hall : (Cond.all (.arg 0) (.isInt (.elem (.arg 0) (.index 0)))).before args s = true := hq _ (by decide +kernel)
  obtain ⟨b, xs, hb, hx⟩ := State.ints_of_pre rfl harr hlen hall
  have hsm : xs.length < 2 ^ 31 := hx.choose_spec.2.2.2
  have hev : (Term.length (.arg 0)).eval args s none [] s = some (.int xs.length.toInt32) := hx.length_eval hb
  have hv := Cond.le_ints hev (show (Term.int 6).eval args s none [] s = some (.int 6) from rfl)
  have hd : xs.length.toInt32 ≤ 6 := by
    simpa [Cond.before, Cond.holds, hv] using hle
  have hN : xs.length ≤ 6 := (Int32.ofNat_le_ofNat hsm (by decide)).mp (show Int32.ofNat xs.length ≤ Int32.ofNat 6 from hd)
  exact ⟨b, xs, Cond.one_arg hc (show args[0]? = some (.ref b) from hb), hx, hN, h⟩
theorem lw_comes (l : Launch) (hl0 : l.stackTraces = false) : Comes l x (Jvm.Cond.code x code maxLocals ret :: tables_1) room_1 (fun tb e args s => Calls_1 tb e args s ∧ rest_1 tb e args s ∧ Pre_1 tb e args s)
    (fun _ _ args s o t => lw_Q args s o t) := by
  intro p e ha hc hk s m args below hf hfit hheap happ hpre
  obtain ⟨b, xs, hP⟩ := lw_pre_spec hpre.2.2 hpre.2.1
  obtain ⟨k, o, h1, h2, h3, hQ⟩ := lw_walk l hl0 b xs p e ha hc hk s m args below hf ((Spec.applies_iff_loose hf).mp happ).1 hP trivial
  exact ⟨k, o, h1, h2, h3, hQ⟩
theorem lw_frame {s t : State} {o : Outcome} {args : Array Value} (h : Framed s o t [] 600002 7302232) :
    Framed s o t (fieldLocs frame_1_writes args s ++ arrayLocs frame_1_arrays args s ++ staticLocs frame_1_statics s) 600002 7302232 := h
theorem lw_limb (L : Cond) (hL : ∀ (args : Array Value) (s t : State), L.after args s (.returned (some (.int 1))) t = true) :
    ArmFor flags0 classFile x code maxLocals ret World_1 tables_1 room_1 Calls_1 rest_1 Pre_1
      (fun tb e a s o t => postC L tb e a s o t ∧ Framed s o t (fieldLocs frame_1_writes a s ++ arrayLocs frame_1_arrays a s ++ staticLocs frame_1_statics s) 600002 7302232) := by
  intro l hfl _ _
  have hl0 : l.stackTraces = false := by unfold Launch.stackTraces; rw [hfl]; decide +kernel
  intro p e ha hc hk s m args below hf hfit hheap happ hpre
  obtain ⟨k, o, h1, h2, h3, rfl, hF⟩ := lw_comes l hl0 p e ha hc hk s m args below hf hfit hheap happ hpre
  exact ⟨k, _, h1, h2, h3, hL args s _, lw_frame hF⟩
theorem i_vc : Claimed_1_1 ∧ Claimed_1_2 := ⟨lw_limb limb_1_1 (fun args s t => by simp [limb_1_1, Cond.after, Cond.holds, Cond.value]), lw_limb limb_1_2 (fun args s t => Cond.after_iff.mpr (by
  first | (rw [show limb_1_2 = Cond.eq .result (.int 1) from rfl, Cond.eq_ints (x := 1) (y := 1) rfl rfl]; simp; done) | (simp [limb_1_2, Cond.value, Term.eval]; done)))⟩

