/-! throwing with the one heap kept -/
def x_XC {S : Type} (D : va_G) (px : String → S → Prop) (W1 : S → va_W) (A : Nat → Prop) : String → State → State → Prop := vx_X (S := S) (fun _ => True) (fun E u t => px E u ∧ sj_E D (W1 u) [] A t) A
theorem gx_ise {ad : Nat → Nat} {A : Nat → Prop} {U : State} (h : gx ad A U) : sj_xt "java/lang/IllegalStateException" A U := ⟨h.1.2.2.2.2.1, h.1.2.2.2.2.2, h.2.2.1⟩
theorem gx_iob {ad : Nat → Nat} {A : Nat → Prop} {U : State} (h : gx ad A U) : sj_xt "java/lang/IndexOutOfBoundsException" A U := ⟨h.1.2.2.2.2.1, h.1.2.2.2.2.2, h.2.2.2.1⟩
theorem gx_iae {ad : Nat → Nat} {A : Nat → Prop} {U : State} (h : gx ad A U) : sj_xt "java/lang/IllegalArgumentException" A U := ⟨h.1.2.2.2.2.1, h.1.2.2.2.2.2, h.2.2.2.2.1⟩
theorem gx_uoe {ad : Nat → Nat} {A : Nat → Prop} {U : State} (h : gx ad A U) : sj_xt "java/lang/UnsupportedOperationException" A U := ⟨h.1.2.2.2.2.1, h.1.2.2.2.2.2, h.2.2.2.2.2⟩
theorem x_vmet {l : Launch} {y : MethodName} {ws ws' : List Cond} {rm : Room} {mc ms : Nat} {cc : ByteArray} {maxL : Nat} {ret : Option FieldType} {D : va_G} {X : va_W} {T : List (ClassId × FieldType)} {sz : Nat} {Ex : (Nat → Prop) → State → Prop} {av : List Value} {Qc : (Nat → Prop) → Array Value → State → Outcome → State → Prop} {XC : (Nat → Prop) → String → State → State → Prop}
    (hy : plainName y.cls = true) (hw : ws = Cond.code y cc maxL ret :: ws') (hav : (lg_sl av).length ≤ maxL)
    (body : ∀ (p : Program) (e : Env) (s : State) (m : MethodId) (below : List Frame) (meth : Method) (c : Code) (A : Nat → Prop) (ls : Array Slot), p.tables.exec = Jvm.exec → c.code = cc → meth.sig.returnType = ret → c.maxLocals = maxL → (∀ w ∈ ws, w.before av.toArray s = true) → s.vm.findClass y.cls = some m.cls → meth.locks = false → (∀ x ∈ c.exceptionTable.toList, False) → (∀ q, s.heap.size ≤ q → A q) → va_S A s.heap s.heap [] → sj_H D A X s.heap → va_K D vwCl T s → Ex A s → lv_has ls maxL (lv_args 0 av) →
      W p l e (headSpec ws rm).room s m av.toArray below meth c s.heap [] 0 0 (vx_MQ below (Qc A) (XC A) av.toArray s mc ms A) (F0 m 0 ls [])) : vx_Met l y ws rm (va_Pc av (sj_B D X T sz (Ex (va_A X sz)))) (Qc (va_A X sz)) (XC (va_A X sz)) mc ms (va_A X sz) := by
  refine vx_ofW (cc := cc) (maxL := maxL) (ret := ret) hy hw ?_
  intro p e s m args below meth c s₁ B hml hnt hv
  obtain ⟨rfl, hsz, hP, hK, hD0, hE⟩ := hv
  subst hsz
  have hD := hD0.self (sz := s.heap.size)
  have hl := lv_entry av (n := maxL) hav
  rw [lg_entry_eq]
  exact body p e s m below meth c _ _ B.exec B.bytes B.returns hml (atoms_spec (ws := ws) B.pre) (findClass_of_methodNamed B.named) B.notSynchronized hnt (fun q h => Or.inr h) va_S.rf ⟨hP, hD⟩ hK hE hl
section XX
variable {p : Program} {l : Launch} {e : Env} {R : Room} {s : State} {m : MethodId} {args : Array Value} {below : List Frame} {meth : Method} {c : Code} {H : Heap} {locs : List Loc} {cells slots : Nat} {Q : State → Prop}
variable {cc : ByteArray} {pc : Nat} {ls : Array Slot} {rest st0 : List Value} {D : va_G} {A A0 : Nat → Prop} {T : List (ClassId × FieldType)} {X pl : va_W} {H0 : Heap} {mc ms : Nat} {Qc : Array Value → State → Outcome → State → Prop}
theorem x_throw {S : Type} (hexec : p.tables.exec = Jvm.exec) (hb : c.code = cc) (hl : l.stackTraces = false) {own cls : String} {ik ic : Nat} {px : String → S → Prop} {W1 : S → va_W} (u : S) (hpx : px cls u)
    (hown : s.vm.findClass own = some m.cls) (hcls : Bundle.fit cls = true)
    (hk : (Cond.classLink own ik cls).before args s = true) (hini : (Cond.initialized cls).before args s = true) (hat : ∀ w ∈ (vx_at0 own ic cls ["java/lang/RuntimeException", "java/lang/Exception"]).filter goodWord, w.before args s = true)
    (hat2 : ∀ w ∈ (vx_at0 own ic cls ["java/lang/RuntimeException", "java/lang/Exception"]).filter (fun w => !goodWord w), w ∈ [Cond.castable cls cls, .declares (Bundle.init0 "java/lang/RuntimeException"), .declares (Bundle.init0 "java/lang/Exception"), .declares (Bundle.init0 Bundle.tN)])
    (hgood : ∀ w ∈ Cond.classLink own ik cls :: Cond.initialized cls :: vx_at0 own ic cls ["java/lang/RuntimeException", "java/lang/Exception"], vx_ot w = true)
    (hE : sj_xt cls A s) (hS : va_S A s.heap H locs) (hH : sj_H D A (W1 u) H) (hK : va_K D vwCl T s) (hsize : ls.size = c.maxLocals)
    (d0 : decode cc pc = .ok (.new ik, 3)) (d3 : decode cc (pc + 3) = .ok (.dup, 1)) (d4 : decode cc (pc + 4) = .ok (.invokespecial ic, 3)) (d7 : decode cc (pc + 7) = .ok (.athrow, 1))
    (hnt : ∀ x ∈ c.exceptionTable.toList, False)
    (hRframes : 6 ≤ R.frames) (hRlocals : (rest.map fun v => v.category).sum + 81 ≤ R.locals) (hRcells : cells + 1 ≤ R.cells) (hRslots : slots + 6 ≤ R.slots) (hlocks : meth.locks = false) (hc : cells + 1 ≤ mc) (hs : slots + 6 ≤ ms) :
    W p l e R s m args below meth c H locs cells slots (vx_MQ below Qc (x_XC D px W1 A) args s mc ms A) (F0 m pc ls rest) := by
  refine vx_throw0 (names := ["java/lang/RuntimeException", "java/lang/Exception"]) hexec hb hl hown hcls (by decide) hk hini (vx_hat hat hat2 (vx_c (va_Nw.use rfl hE.2.2.1) (vx_c (va_Nw.use rfl hE.2.2.2.1) (vx_c (va_Nw.use rfl hE.2.2.2.2.1) (vx_c (va_Nw.use rfl hE.2.2.2.2.2) vx_n))))) hgood hE.1 hE.2.1 hS hsize d0 d3 d4 d7 (fun x h => (hnt x h).elim) hRframes hRlocals hRcells hRslots hlocks ?_ hS.2.2 hc hs
  intro t ha h1 h2
  exact ⟨u, trivial, ⟨hpx, hH.1.kept (fun k q hq => h2 q.1 (hH.1 k q hq).lt), va_K.moved ha (sj_Knil hK), hH.2⟩, Nat.le_trans hS.1 h1, fun q hq hnA => (h2 q (Nat.lt_of_lt_of_le hq hS.1)).trans (hS.2.1 q hq hnA)⟩
theorem sj_Hl (hH : sj_H D A (X ++ pl) H) : sj_H D A X H := by
  have h : ∀ (k : Nat) (q : Nat × va_E), X[k]? = some q → (X ++ pl)[k]? = some q := fun k q hq => by
    rw [List.getElem?_append_left (List.getElem?_eq_some_iff.mp hq).1]; exact hq
  exact ⟨fun k q hq => hH.1 k q (h k q hq), fun i j p q hp hq e => hH.2.1 i j p q (h i p hp) (h j q hq) e, fun k q hq => hH.2.2 k q (h k q hq)⟩
theorem va_rg (X : va_W) : (List.range X.length).map (fun i => X[i]?) = X.map some := by
  refine List.ext_getElem? fun k => ?_
  rw [List.getElem?_map, List.getElem?_map]
  by_cases h : k < X.length
  · rw [List.getElem?_range h, List.getElem?_eq_getElem h]; simp [h]
  · rw [List.getElem?_eq_none (by simpa using h), List.getElem?_eq_none (by simpa using h)]; rfl
theorem x_join {W1 : va_W} {H1 : Heap} (hH : sj_H D A0 (X ++ pl) H) (hS : va_S A0 H0 H locs) (hA : ∀ q, H0.size ≤ q → A0 q) (hk1 : ∀ q : Nat, q < H.size → ¬ va_A X H.size q → H1[q]? = H[q]?) (e1 : va_P D vwCl W1 H1) (e3 : va_D (va_A X H.size) W1) : sj_H D A0 (W1 ++ pl) H1 := by
  have hF : ∀ q, va_A X H.size q → A0 q := fun q h => x_sub (sj_Hl hH) q h (fun q h2 => hA q (Nat.le_trans hS.1 h2))
  exact va_joinQ (wr := []) hH.1 hH.2 (List.range X.length) [] (va_rg X) rfl rfl (fun i h => by simp at h) hk1 hF e1 e3
theorem x_callpi {S : Type} {post : Int32 → S → Prop} {W1 : S → va_W} {av : Array Value} (hr : va_Run p l e R s m args below meth c H locs cells slots mc ms (F0 m pc ls st0) rest (sj_Qi D post W1 (fun _ => []) (va_A X H.size) av) (va_A X H.size)) (hH : sj_H D A0 (X ++ pl) H) (hS : va_S A0 H0 H locs) (hA : ∀ q, H0.size ≤ q → A0 q) {k n : Nat} (hk : cells + mc = k) (hn2 : slots + ms = n)
    (kk : ∀ (r : Int32) (u : S) (H1 : Heap) (locs1 : List Loc), post r u → sj_H D A0 (W1 u ++ pl) H1 → va_S A0 H0 H1 locs1 → W p l e R s m args below meth c H1 locs1 k n Q (F0 m (pc + 3) ls (.int r :: rest))) : W p l e R s m args below meth c H locs cells slots Q (F0 m pc ls st0) := by
  subst hk; subst hn2
  have hF : ∀ q, va_A X H.size q → A0 q := fun q h => x_sub (sj_Hl hH) q h (fun q h2 => hA q (Nat.le_trans hS.1 h2))
  refine va_calli hr hS (fun q _ h => hF q h) hF (fun r u t H1 locs1 ht hvm hp hE hz hk1 hS1 => ?_)
  obtain ⟨e1, e2, e3⟩ := hE
  rw [ht] at e1
  exact kk r u H1 locs1 hp (x_join hH hS hA hk1 e1 e3) hS1
theorem x_callpd {S : Type} {post : UInt64 → S → Prop} {W1 : S → va_W} {av : Array Value} (hr : va_Run p l e R s m args below meth c H locs cells slots mc ms (F0 m pc ls st0) rest (sj_Qd D post W1 (fun _ => []) (va_A X H.size) av) (va_A X H.size)) (hH : sj_H D A0 (X ++ pl) H) (hS : va_S A0 H0 H locs) (hA : ∀ q, H0.size ≤ q → A0 q) {k n : Nat} (hk : cells + mc = k) (hn2 : slots + ms = n)
    (kk : ∀ (r : UInt64) (u : S) (H1 : Heap) (locs1 : List Loc), post r u → sj_H D A0 (W1 u ++ pl) H1 → va_S A0 H0 H1 locs1 → W p l e R s m args below meth c H1 locs1 k n Q (F0 m (pc + 3) ls (.double r :: rest))) : W p l e R s m args below meth c H locs cells slots Q (F0 m pc ls st0) := by
  subst hk; subst hn2
  have hF : ∀ q, va_A X H.size q → A0 q := fun q h => x_sub (sj_Hl hH) q h (fun q h2 => hA q (Nat.le_trans hS.1 h2))
  refine va_calld hr hS (fun q _ h => hF q h) hF (fun r u t H1 locs1 ht hvm hp hE hz hk1 hS1 => ?_)
  obtain ⟨e1, e2, e3⟩ := hE
  rw [ht] at e1
  exact kk r u H1 locs1 hp (x_join hH hS hA hk1 e1 e3) hS1
theorem x_callpv {S : Type} {post : S → Prop} {W1 : S → va_W} {av : Array Value} (hr : va_Run p l e R s m args below meth c H locs cells slots mc ms (F0 m pc ls st0) rest (sj_Qv D post W1 (fun _ => []) (va_A X H.size) av) (va_A X H.size)) (hH : sj_H D A0 (X ++ pl) H) (hS : va_S A0 H0 H locs) (hA : ∀ q, H0.size ≤ q → A0 q) {k n : Nat} (hk : cells + mc = k) (hn2 : slots + ms = n)
    (kk : ∀ (u : S) (H1 : Heap) (locs1 : List Loc), post u → sj_H D A0 (W1 u ++ pl) H1 → va_S A0 H0 H1 locs1 → W p l e R s m args below meth c H1 locs1 k n Q (F0 m (pc + 3) ls rest)) : W p l e R s m args below meth c H locs cells slots Q (F0 m pc ls st0) := by
  subst hk; subst hn2
  have hF : ∀ q, va_A X H.size q → A0 q := fun q h => x_sub (sj_Hl hH) q h (fun q h2 => hA q (Nat.le_trans hS.1 h2))
  refine va_callv hr hS (fun q _ h => hF q h) hF (fun u t H1 locs1 ht hvm hp hE hz hk1 hS1 => ?_)
  obtain ⟨e1, e2, e3⟩ := hE
  rw [ht] at e1
  exact kk u H1 locs1 hp (x_join hH hS hA hk1 e1 e3) hS1
theorem x_vcalli {S : Type} {post : Int32 → S → Prop} {px : String → S → Prop} {W1 : S → va_W} {av : Array Value} (hr : vx_Run p l e R s m args below meth c H locs cells slots mc ms (F0 m pc ls st0) rest (sj_Qi D post W1 (fun _ => []) (va_A X H.size) av) (x_XC D px W1 (va_A X H.size)) (va_A X H.size)) (hH : sj_H D A0 (X ++ pl) H) (hS : va_S A0 H0 H locs) (hA : ∀ q, H0.size ≤ q → A0 q) {k n : Nat} (hk : cells + mc = k) (hn2 : slots + ms = n)
    (kx : ∀ (E : String) (ce : Cell) (q9 : Addr) (u : S) (H1 : Heap) (locs1 : List Loc), px E u → sj_H D A0 (W1 u ++ pl) H1 → va_S A0 H0 H1 locs1 → H1[q9]? = some ce → ce.vm = .none → s.vm.findClass E = some ce.cls → vx_W p l e R s m args below meth c H1 locs1 k n Q (F0 m pc ls rest) q9)
    (kk : ∀ (r : Int32) (u : S) (H1 : Heap) (locs1 : List Loc), post r u → sj_H D A0 (W1 u ++ pl) H1 → va_S A0 H0 H1 locs1 → W p l e R s m args below meth c H1 locs1 k n Q (F0 m (pc + 3) ls (.int r :: rest))) : W p l e R s m args below meth c H locs cells slots Q (F0 m pc ls st0) := by
  subst hk; subst hn2
  have hF : ∀ q, va_A X H.size q → A0 q := fun q h => x_sub (sj_Hl hH) q h (fun q h2 => hA q (Nat.le_trans hS.1 h2))
  refine vx_calli hr hS (fun q _ h => hF q h) hF (fun q _ h => hF q h) (fun E ce q9 u t H1 locs1 ht hvm hp hE hz hk1 hS1 hce hcv hcl => ?_) (fun r u t H1 locs1 ht hvm hp hE hz hk1 hS1 => ?_)
  · obtain ⟨hpx, e1, e2, e3⟩ := hE
    rw [ht] at e1
    exact kx E ce q9 u H1 locs1 hpx (x_join hH hS hA hk1 e1 e3) hS1 hce hcv hcl
  · obtain ⟨e1, e2, e3⟩ := hE
    rw [ht] at e1
    exact kk r u H1 locs1 hp (x_join hH hS hA hk1 e1 e3) hS1
end XX
