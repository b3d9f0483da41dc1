/-! words of my own over the kit's rows: a world is a list of known cells and a hidden rest; posts and premises in one shape -/
def sj_H (D : va_G) (A : Nat → Prop) (X : va_W) (H : Heap) : Prop := va_P D vwCl X H ∧ va_D A X
def sj_B (D : va_G) (X : va_W) (T : List (ClassId × FieldType)) (sz : Nat) (Ex : State → Prop) : State → Prop := fun U => U.heap.size = sz ∧ va_P D vwCl X U.heap ∧ va_K D vwCl T U ∧ va_D (fun _ => True) X ∧ Ex U
def sj_n : State → Prop := fun _ => True
def sj_bl (Ex : State → Prop) : Prop := ∀ (U : State) (g : JFrame) (mk : MethodId) (a : Array Value), Ex U → Ex (U.calling g mk a)
theorem sj_bln : sj_bl sj_n := fun _ _ _ _ _ => trivial
theorem sj_exn {H : Heap} {s : State} : ∀ U : State, U.heap = H → s.WarmedH U.vm → sj_n U := fun _ _ _ => trivial
theorem sj_blind {D : va_G} {X : va_W} {T : List (ClassId × FieldType)} {sz : Nat} {Ex : State → Prop} {av : List Value} (h : sj_bl Ex) : FrameBlind (va_Pc av (sj_B D X T sz Ex)) := by
  intro a U g mk hp
  obtain ⟨e, h1, h2, h3, h4, h5⟩ := hp
  exact ⟨e, h1, h2, va_K.moved (u := U) (U := U.calling g mk a) (Vm.Alike.refl U.vm) h3, h4, h _ _ _ _ h5⟩
def sj_E (D : va_G) (W1 : va_W) (T1 : List (ClassId × FieldType)) (A : Nat → Prop) (t : State) : Prop := va_P D vwCl W1 t.heap ∧ va_K D vwCl T1 t ∧ va_D A W1
def sj_Qi {S : Type} (D : va_G) (post : Int32 → S → Prop) (W1 : S → va_W) (T1 : S → List (ClassId × FieldType)) (A : Nat → Prop) : Array Value → State → Outcome → State → Prop := va_Qi post (fun u t => sj_E D (W1 u) (T1 u) A t) A
def sj_Qd {S : Type} (D : va_G) (post : UInt64 → S → Prop) (W1 : S → va_W) (T1 : S → List (ClassId × FieldType)) (A : Nat → Prop) : Array Value → State → Outcome → State → Prop := va_Qd post (fun u t => sj_E D (W1 u) (T1 u) A t) A
def sj_Qv {S : Type} (D : va_G) (post : S → Prop) (W1 : S → va_W) (T1 : S → List (ClassId × FieldType)) (A : Nat → Prop) : Array Value → State → Outcome → State → Prop := va_Qv post (fun u t => sj_E D (W1 u) (T1 u) A t) A
theorem sj_sub {D : va_G} {A : Nat → Prop} {X X' : va_W} {H : Heap} (hH : sj_H D A X H) (is : List Nat) (hn : va_nd is = true) (hs : is.map (fun i => X[i]?) = X'.map some) : sj_H D A X' H :=
  ⟨fun k q hk => by obtain ⟨i, _, h2⟩ := va_in_of is hs hk; exact hH.1 i q h2, hH.2.sub is hn hs⟩
theorem sj_nil {D : va_G} {A : Nat → Prop} {H : Heap} : sj_H D A [] H := ⟨fun k q h => by simp at h, fun i j p q h => by simp at h, fun k q h => by simp at h⟩
theorem sj_Knil {D : va_G} {T : List (ClassId × FieldType)} {s : State} (h : va_K D vwCl T s) : va_K D vwCl [] s := ⟨h.1, fun k q h => by simp at h⟩
/-- some of the known cells are put into the hidden rest -/
theorem sj_hide {D : va_G} {A : Nat → Prop} {X c1 c2 pl : va_W} {H : Heap} (hH : sj_H D A (X ++ pl) H) (is : List Nat) (hn : va_nd is = true) (hs : is.map (fun i => X[i]?) = (c1 ++ c2).map some) : sj_H D A (c1 ++ (c2 ++ pl)) H := by
  rw [← List.append_assoc]
  exact ⟨hH.1.part is hs, hH.2.part is hn hs⟩
theorem sj_met {l : Launch} {y : MethodName} {ws ws' : List Cond} {rm : Room} {mc ms : Nat} {cc : ByteArray} {maxL : Nat} {ret : Option FieldType} {D : va_G} {X : va_W} {T : List (ClassId × FieldType)} {sz : Nat} {Ex : State → Prop} {av : List Value} {Qc : (Nat → Prop) → Array Value → State → Outcome → State → Prop}
    (hy : plainName y.cls = true) (hw : ws = Cond.code y cc maxL ret :: ws') (hav : (lg_sl av).length ≤ maxL)
    (body : ∀ (p : Program) (e : Env) (s : State) (m : MethodId) (below : List Frame) (meth : Method) (c : Code) (A : Nat → Prop) (ls : Array Slot), p.tables.exec = Jvm.exec → c.code = cc → meth.sig.returnType = ret → c.maxLocals = maxL → (∀ w ∈ ws, w.before av.toArray s = true) → s.vm.findClass y.cls = some m.cls → meth.locks = false → meth.name = y.name → (∀ q, s.heap.size ≤ q → A q) → s.heap.size = sz → va_S A s.heap s.heap [] → sj_H D A (X ++ []) s.heap → va_K D vwCl T s → Ex s → lv_has ls maxL (lv_args 0 av) →
      W p l e (headSpec ws rm).room s m av.toArray below meth c s.heap [] 0 0 (MQ below (Qc A) av.toArray s mc ms A) (F0 m 0 ls [])) : Met l y ws rm (va_Pc av (sj_B D X T sz Ex)) (Qc (va_A X sz)) mc ms (va_A X sz) := by
  refine Met.ofW (cc := cc) (maxL := maxL) (ret := ret) hy hw ?_
  intro p e s m args below meth c s₁ B hml hv
  obtain ⟨rfl, hsz, hP, hK, hD0, hE⟩ := hv
  subst hsz
  have hD := hD0.self (sz := s.heap.size)
  have hl := lv_entry av (n := maxL) hav
  rw [lg_entry_eq]
  refine body p e s m below meth c _ _ B.exec B.bytes B.returns hml (atoms_spec (ws := ws) B.pre) (findClass_of_methodNamed B.named) B.notSynchronized (name_of_methodNamed B.named B.method).1 (fun q h => Or.inr h) rfl va_S.rf ?_ hK hE hl
  rw [List.append_nil]
  exact ⟨hP, hD⟩
section SJ
variable {p : Program} {l : Launch} {e : Env} {R : Room} {s : State} {m : MethodId} {args : Array Value} {below : List Frame} {meth : Method} {c : Code} {H : Heap} {locs : List Loc} {cells slots : Nat} {Q : State → Prop}
variable {cc : ByteArray} {pc : Nat} {ls : Array Slot} {rest st0 : List Value} {D : va_G} {A A0 : Nat → Prop} {a b : Nat} {T tc : List (ClassId × FieldType)} {X cx wr pl : va_W} {H0 : Heap} {mc ms : Nat}
theorem sj_i {x y : Int32} (h : x = y) (k : W p l e R s m args below meth c H locs cells slots Q (F0 m pc ls (.int y :: rest))) : W p l e R s m args below meth c H locs cells slots Q (F0 m pc ls (.int x :: rest)) := h ▸ k
theorem sj_v {x y : Value} (h : x = y) (k : W p l e R s m args below meth c H locs cells slots Q (F0 m pc ls (y :: rest))) : W p l e R s m args below meth c H locs cells slots Q (F0 m pc ls (x :: rest)) := h ▸ k
theorem sj_zret {S : Type} {post : Int32 → S → Prop} {W1 : S → va_W} {T1 : S → List (ClassId × FieldType)} {v : Int32} {ty : FieldType} (hexec : p.tables.exec = Jvm.exec) (hb : c.code = cc) (hr : meth.sig.returnType = some ty) (hlocks : meth.locks = false) (hn : narrow ty (.int v) = .int v) (hS : va_S A s.heap H locs) (u : S) (hp : post v u) (hH : sj_H D A (W1 u) H) (hT : va_K D vwCl (T1 u) s) (hc : cells ≤ mc) (hs : slots ≤ ms) (hdg : decode cc pc = .ok (.ireturn, 1)) :
    W p l e R s m args below meth c H locs cells slots (MQ below (sj_Qi D post W1 T1 A) args s mc ms A) (F0 m pc ls [.int v]) := by
  refine W.widen hc hs ?_
  exact W.zret hexec hb hr hn (fun t ht hW => ⟨⟨v, u, rfl, hp, by rw [ht]; exact hH.1, va_K.moved hW.alike hT, hH.2⟩, hS.F ht⟩) hS.2.2 hdg
theorem sj_dret {S : Type} {post : UInt64 → S → Prop} {W1 : S → va_W} {T1 : S → List (ClassId × FieldType)} {v : UInt64} (hexec : p.tables.exec = Jvm.exec) (hb : c.code = cc) (hr : meth.sig.returnType = some .double) (hlocks : meth.locks = false) (hS : va_S A s.heap H locs) (u : S) (hp : post v u) (hH : sj_H D A (W1 u) H) (hT : va_K D vwCl (T1 u) s) (hc : cells ≤ mc) (hs : slots ≤ ms) (hdg : decode cc pc = .ok (.dreturn, 1)) :
    W p l e R s m args below meth c H locs cells slots (MQ below (sj_Qd D post W1 T1 A) args s mc ms A) (F0 m pc ls [.double v]) := by
  refine W.widen hc hs ?_
  exact W.dret hexec hb hr (fun t ht hW => ⟨⟨v, u, rfl, hp, by rw [ht]; exact hH.1, va_K.moved hW.alike hT, hH.2⟩, hS.F ht⟩) hS.2.2 hdg
theorem sj_vret {S : Type} {post : S → Prop} {W1 : S → va_W} {T1 : S → List (ClassId × FieldType)} (hexec : p.tables.exec = Jvm.exec) (hb : c.code = cc) (hr : meth.sig.returnType = none) (hlocks : meth.locks = false) (hS : va_S A s.heap H locs) (u : S) (hp : post u) (hH : sj_H D A (W1 u) H) (hT : va_K D vwCl (T1 u) s) (hc : cells ≤ mc) (hs : slots ≤ ms) (hdg : decode cc pc = .ok (.return_, 1)) :
    W p l e R s m args below meth c H locs cells slots (MQ below (sj_Qv D post W1 T1 A) args s mc ms A) (F0 m pc ls []) := by
  refine W.widen hc hs ?_
  exact W.vret hexec hb hr (fun t ht hW => ⟨⟨u, rfl, hp, by rw [ht]; exact hH.1, va_K.moved hW.alike hT, hH.2⟩, hS.F ht⟩) hS.2.2 hdg
theorem sj_put (hexec : p.tables.exec = Jvm.exec) (hb : c.code = cc) {own ref C : String} {F : u_T} {N ci index : Nat} {Ts : List Cond} (hts : ∀ w ∈ Ts, w.before args s = true) (hin : ∀ w ∈ u_ws C F N, w ∈ Ts) (ty0 : Nat → FieldType) (hty : ∀ k, k < N → parseFieldDescriptor (F k).2.2.1 = some (ty0 k)) (hnm : ∀ a, a < N → ∀ b, b < N → a ≠ b → (F a).2.1 ≠ (F b).2.1) (hown : s.vm.findClass own = some m.cls) (hK : va_K D vwCl T s) (hH : sj_H D A X H) (hS0 : va_S A H0 H locs) (q0 : Nat) {fs : List Value} (he : X[q0]? = some (a, .inr (ci, fs))) (hc : vwCl[ci]? = some (C, F, N)) (k : Nat) (hk : k < N) (hlink : (Cond.fieldLink own index ref (F k).2.1 (F k).2.2.1).before args s = true) (hsame : ∀ x, s.fieldFound? (F k).1 (F k).2.1 (F k).2.2.1 = some x → s.fieldFound? ref (F k).2.1 (F k).2.2.1 = some x) (hfin : (F k).2.2.2 = false) {ty : FieldType} {v : Value} (hd : parseFieldDescriptor (F k).2.2.1 = some ty) (hn : narrow ty v = v) (hfit : fits ty v = true) (hl : k < fs.length)
    (hdg : decode cc pc = .ok (.putfield index, 3)) (kk : ∀ (H1 : Heap) (locs1 : List Loc), sj_H D A (X.set q0 (a, .inr (ci, fs.set k v))) H1 → va_S A H0 H1 locs1 → W p l e R s m args below meth c H1 locs1 cells slots Q (F0 m (pc + 3) ls rest)) : W p l e R s m args below meth c H locs cells slots Q (F0 m pc ls (v :: .ref a :: rest)) :=
  va_put hexec hb hts hin ty0 hty hnm hown hK hH.1 hH.2 hS0 q0 he hc k hk hlink hsame hfin hd hn hfit hl hdg (fun H1 l1 h1 h2 h3 => kk H1 l1 ⟨h1, h2⟩ h3)
theorem sj_putF (hexec : p.tables.exec = Jvm.exec) (hb : c.code = cc) {own ref C : String} {F : u_T} {N ci index : Nat} {Ts : List Cond} (hts : ∀ w ∈ Ts, w.before args s = true) (hin : ∀ w ∈ u_ws C F N, w ∈ Ts) (ty0 : Nat → FieldType) (hty : ∀ k, k < N → parseFieldDescriptor (F k).2.2.1 = some (ty0 k)) (hnm : ∀ a, a < N → ∀ b, b < N → a ≠ b → (F a).2.1 ≠ (F b).2.1) (hown : s.vm.findClass own = some m.cls) (hK : va_K D vwCl T s) (hH : sj_H D A X H) (hS0 : va_S A H0 H locs) (q0 : Nat) {fs : List Value} (he : X[q0]? = some (a, .inr (ci, fs))) (hc : vwCl[ci]? = some (C, F, N)) (k : Nat) (hk : k < N) (hlink : (Cond.fieldLink own index ref (F k).2.1 (F k).2.2.1).before args s = true) (hsame : ∀ x, s.fieldFound? (F k).1 (F k).2.1 (F k).2.2.1 = some x → s.fieldFound? ref (F k).2.1 (F k).2.2.1 = some x) (hfin : (F k).2.2.2 = true) (hin2 : meth.name = "<init>") (hdecl : (F k).1 = own) {ty : FieldType} {v : Value} (hd : parseFieldDescriptor (F k).2.2.1 = some ty) (hn : narrow ty v = v) (hfit : fits ty v = true) (hl : k < fs.length)
    (hdg : decode cc pc = .ok (.putfield index, 3)) (kk : ∀ (H1 : Heap) (locs1 : List Loc), sj_H D A (X.set q0 (a, .inr (ci, fs.set k v))) H1 → va_S A H0 H1 locs1 → W p l e R s m args below meth c H1 locs1 cells slots Q (F0 m (pc + 3) ls rest)) : W p l e R s m args below meth c H locs cells slots Q (F0 m pc ls (v :: .ref a :: rest)) :=
  va_putF hexec hb hts hin ty0 hty hnm hown hK hH.1 hH.2 hS0 q0 he hc k hk hlink hsame hfin hin2 hdecl hd hn hfit hl hdg (fun H1 l1 h1 h2 h3 => kk H1 l1 ⟨h1, h2⟩ h3)
theorem sj_iast (hexec : p.tables.exec = Jvm.exec) (hb : c.code = cc) (hK : va_K D vwCl T s) (hH : sj_H D A X H) (hS : va_S A H0 H locs) (q0 t0 : Nat) {cA : ClassId} {n : Nat} {f : Nat → Int32} (ha : X[q0]? = some (a, .inl (cA, n, .inl f))) (ht : T[t0]? = some (cA, .int)) {i : Int32} {x : Int32} (hin : vp_in i n) (hdg : decode cc pc = .ok (.iastore, 1))
    (kk : ∀ (H1 : Heap) (locs1 : List Loc), sj_H D A (X.set q0 (a, .inl (cA, n, .inl (upd f i.toNatClampNeg x)))) H1 → va_S A H0 H1 locs1 → W p l e R s m args below meth c H1 locs1 cells slots Q (F0 m (pc + 1) ls rest)) : W p l e R s m args below meth c H locs cells slots Q (F0 m pc ls (.int x :: .int i :: .ref a :: rest)) :=
  va_iast hexec hb hK hH.1 hH.2 hS q0 t0 ha ht hin hdg (fun H1 l1 h1 h2 h3 => kk H1 l1 ⟨h1, h2⟩ h3)
theorem sj_cast (hexec : p.tables.exec = Jvm.exec) (hb : c.code = cc) (hK : va_K D vwCl T s) (hH : sj_H D A X H) (hS : va_S A H0 H locs) (q0 t0 : Nat) {cA : ClassId} {n : Nat} {f : Nat → Int32} (ha : X[q0]? = some (a, .inl (cA, n, .inl f))) (ht : T[t0]? = some (cA, .char)) {i : Int32} {x : Int32} (hin : vp_in i n) (hdg : decode cc pc = .ok (.castore, 1))
    (kk : ∀ (H1 : Heap) (locs1 : List Loc), sj_H D A (X.set q0 (a, .inl (cA, n, .inl (upd f i.toNatClampNeg (vp_nar .char x))))) H1 → va_S A H0 H1 locs1 → W p l e R s m args below meth c H1 locs1 cells slots Q (F0 m (pc + 1) ls rest)) : W p l e R s m args below meth c H locs cells slots Q (F0 m pc ls (.int x :: .int i :: .ref a :: rest)) :=
  va_cast hexec hb hK hH.1 hH.2 hS q0 t0 ha ht hin hdg (fun H1 l1 h1 h2 h3 => kk H1 l1 ⟨h1, h2⟩ h3)
theorem sj_zast (hexec : p.tables.exec = Jvm.exec) (hb : c.code = cc) (hK : va_K D vwCl T s) (hH : sj_H D A X H) (hS : va_S A H0 H locs) (q0 t0 : Nat) {cA : ClassId} {n : Nat} {f : Nat → Int32} (ha : X[q0]? = some (a, .inl (cA, n, .inl f))) (ht : T[t0]? = some (cA, .boolean)) {i : Int32} {x : Int32} (hin : vp_in i n) (hdg : decode cc pc = .ok (.bastore, 1))
    (kk : ∀ (H1 : Heap) (locs1 : List Loc), sj_H D A (X.set q0 (a, .inl (cA, n, .inl (upd f i.toNatClampNeg (vp_nar .boolean x))))) H1 → va_S A H0 H1 locs1 → W p l e R s m args below meth c H1 locs1 cells slots Q (F0 m (pc + 1) ls rest)) : W p l e R s m args below meth c H locs cells slots Q (F0 m pc ls (.int x :: .int i :: .ref a :: rest)) :=
  va_zast hexec hb hK hH.1 hH.2 hS q0 t0 ha ht hin hdg (fun H1 l1 h1 h2 h3 => kk H1 l1 ⟨h1, h2⟩ h3)
theorem sj_last (hexec : p.tables.exec = Jvm.exec) (hb : c.code = cc) (hK : va_K D vwCl T s) (hH : sj_H D A X H) (hS : va_S A H0 H locs) (q0 t0 : Nat) {cA : ClassId} {n : Nat} {f : Nat → Int64} (ha : X[q0]? = some (a, .inl (cA, n, .inr (.inl f)))) (ht : T[t0]? = some (cA, .long)) {i : Int32} {x : Int64} (hin : vp_in i n) (hdg : decode cc pc = .ok (.lastore, 1))
    (kk : ∀ (H1 : Heap) (locs1 : List Loc), sj_H D A (X.set q0 (a, .inl (cA, n, .inr (.inl (vp_updL f i.toNatClampNeg x))))) H1 → va_S A H0 H1 locs1 → W p l e R s m args below meth c H1 locs1 cells slots Q (F0 m (pc + 1) ls rest)) : W p l e R s m args below meth c H locs cells slots Q (F0 m pc ls (.long x :: .int i :: .ref a :: rest)) :=
  va_last hexec hb hK hH.1 hH.2 hS q0 t0 ha ht hin hdg (fun H1 l1 h1 h2 h3 => kk H1 l1 ⟨h1, h2⟩ h3)
theorem sj_astq (hexec : p.tables.exec = Jvm.exec) (hb : c.code = cc) (hK : va_K D vwCl T s) (hH : sj_H D A X H) (hS : va_S A H0 H locs) (q0 t0 qk ci : Nat) {cA : ClassId} {r : vw_C} {n v : Nat} {vs : List Value} {f : Nat → Option Nat} (ha : X[q0]? = some (a, .inl (cA, n, .inr (.inr (.inr (.inr f)))))) (ht : T[t0]? = some (cA, .object r.1)) (hv : X[qk]? = some (v, .inr (ci, vs))) (hc : vwCl[ci]? = some r) {i : Int32} (hin : vp_in i n) (hdg : decode cc pc = .ok (.aastore, 1))
    (kk : ∀ (H1 : Heap) (locs1 : List Loc), sj_H D A (X.set q0 (a, .inl (cA, n, .inr (.inr (.inr (.inr (va_up f i.toNatClampNeg (some v)))))))) H1 → va_S A H0 H1 locs1 → W p l e R s m args below meth c H1 locs1 cells slots Q (F0 m (pc + 1) ls rest)) : W p l e R s m args below meth c H locs cells slots Q (F0 m pc ls (.ref v :: .int i :: .ref a :: rest)) :=
  va_astq hexec hb hK hH.1 hH.2 hS q0 t0 qk ci ha ht hv hc hin hdg (fun H1 l1 h1 h2 h3 => kk H1 l1 ⟨h1, h2⟩ h3)
theorem sj_swap {c1 : va_W} (h : sj_H D A ((X ++ pl) ++ c1) H) : sj_H D A ((X ++ c1) ++ pl) H := ⟨h.1.swap, h.2.swap⟩
theorem sj_new (hexec : p.tables.exec = Jvm.exec) (hb : c.code = cc) {own C : String} {F : u_T} {N ci index : Nat} {Ts : List Cond} (hts : ∀ w ∈ Ts, w.before args s = true) (hin : ∀ w ∈ u_ws C F N, w ∈ Ts) (ty : Nat → FieldType) (hty : ∀ k, k < N → parseFieldDescriptor (F k).2.2.1 = some (ty k)) (hown : s.vm.findClass own = some m.cls) (hcl : (Cond.classLink own index C).before args s = true) (hinst : (Cond.instantiable C N).before args s = true) (hini : (Cond.initialized C).before args s = true)
    (hK : va_K D vwCl T s) (hH : sj_H D A (X ++ pl) H) (hS : va_S A H0 H locs) (hA : ∀ q, H0.size ≤ q → A q) (hc : vwCl[ci]? = some (C, F, N)) {fs : List Value} (hfs : ∀ j, j < N → defaultValue (ty j) = vp_V fs j) {k n : Nat} (hk : cells + 1 = k) (hn : slots + N = n) (hcells : k ≤ R.cells) (hslots : n ≤ R.slots) (hdg : decode cc pc = .ok (.new index, 3))
    (kk : ∀ (q : Nat) (H1 : Heap), sj_H D A ((X ++ [(q, .inr (ci, fs))]) ++ pl) H1 → va_S A H0 H1 locs →
      W p l e R s m args below meth c H1 locs k n Q (F0 m (pc + 3) ls (.ref q :: rest))) : W p l e R s m args below meth c H locs cells slots Q (F0 m pc ls rest) := by
  subst hk; subst hn
  exact va_new hexec hb hts hin ty hty hown hcl hinst hini hK hH.1 hH.2 hS hA hc hfs hcells hslots hdg (fun q H1 h1 h2 h3 => kk q H1 (sj_swap ⟨h1, h2⟩) h3)
theorem sj_newa (hexec : p.tables.exec = Jvm.exec) (hb : c.code = cc) {atype : ArrayType} (harr : (Cond.arrayClass (newarray.typeOf atype)).before args s = true) {ty : FieldType} (hty : newarray.typeOf atype = ty) (hK : va_K D vwCl T s) (hH : sj_H D A (X ++ pl) H) (hS : va_S A H0 H locs) (hA : ∀ q, H0.size ≤ q → A q)
    {n : Int32} {N' : Nat} {a0 : vp_A} (ha : ∀ cA : ClassId, vp_cell cA a0 = arrV cA N' (fun _ => defaultValue ty)) (hn : ¬ n < 0) (hN : n.toNatClampNeg = N') (hbytes : N' * componentBytes ty ≤ 536870912) {k k2 : Nat} (hk : cells + 1 = k) (hn2 : slots + N' = k2) (hcells : k ≤ R.cells) (hslots : k2 ≤ R.slots) (hdg : decode cc pc = .ok (.newarray atype, 2))
    (kk : ∀ (q : Nat) (cA : ClassId) (H1 : Heap), va_K D vwCl (T ++ [(cA, ty)]) s → sj_H D A ((X ++ [(q, .inl (cA, a0))]) ++ pl) H1 → va_S A H0 H1 locs →
      W p l e R s m args below meth c H1 locs k k2 Q (F0 m (pc + 2) ls (.ref q :: rest))) : W p l e R s m args below meth c H locs cells slots Q (F0 m pc ls (.int n :: rest)) := by
  subst hk; subst hn2
  exact va_newa hexec hb harr hty hK hH.1 hH.2 hS hA ha hn hN hbytes hcells hslots hdg (fun q cA H1 h0 h1 h2 h3 => kk q cA H1 h0 (sj_swap ⟨h1, h2⟩) h3)
theorem sj_newq (hexec : p.tables.exec = Jvm.exec) (hb : c.code = cc) {own C : String} {index : Nat} (hown : s.vm.findClass own = some m.cls) (hclink : (Cond.classLink own index C).before args s = true) (hover : va_AO C s) (hK : va_K D vwCl T s) (hH : sj_H D A (X ++ pl) H) (hS : va_S A H0 H locs) (hA : ∀ q, H0.size ≤ q → A q)
    {n : Int32} {N' : Nat} (hn : ¬ n < 0) (hN : n.toNatClampNeg = N') (hbytes : N' * 4 ≤ 536870912) {k k2 : Nat} (hk : cells + 1 = k) (hn2 : slots + N' = k2) (hcells : k ≤ R.cells) (hslots : k2 ≤ R.slots) (hdg : decode cc pc = .ok (.anewarray index, 3))
    (kk : ∀ (q : Nat) (cA : ClassId) (H1 : Heap), va_K D vwCl (T ++ [(cA, .object C)]) s → sj_H D A ((X ++ [(q, .inl (cA, N', .inr (.inr (.inr (.inr (fun _ => none))))))]) ++ pl) H1 → va_S A H0 H1 locs →
      W p l e R s m args below meth c H1 locs k k2 Q (F0 m (pc + 3) ls (.ref q :: rest))) : W p l e R s m args below meth c H locs cells slots Q (F0 m pc ls (.int n :: rest)) := by
  subst hk; subst hn2
  exact va_newq hexec hb hown hclink hover hK hH.1 hH.2 hS hA hn hN hbytes hcells hslots hdg (fun q cA H1 h0 h1 h2 h3 => kk q cA H1 h0 (sj_swap ⟨h1, h2⟩) h3)
theorem sj_preS {As : List Value} {Ex : State → Prop} (hH : sj_H D A0 (X ++ pl) H) (hK : va_K D vwCl T s) (isC : List Nat) (hC : isC.map (fun i => (X ++ pl)[i]?) = cx.map some) (hn : va_nd isC = true) (isT : List Nat) (hT : isT.filterMap (fun i => T[i]?) = tc) (hbl : sj_bl Ex) (hE : ∀ U : State, U.heap = H → s.WarmedH U.vm → Ex U) : PreS s H (va_Pc As (sj_B D cx tc H.size Ex)) As := by
  have h1 := sj_sub hH isC hn hC
  exact ⟨sj_blind hbl, fun U hU hW => ⟨rfl, by rw [hU], by rw [hU]; exact h1.1, va_K.moved hW.alike (hK.sub isT hT), h1.2.weaken (fun _ _ _ _ => trivial), hE U hU hW⟩⟩
theorem sj_preV {As : List Value} {Ex : State → Prop} {ci : Nat} {fs : List Value} {q : vw_C} (hH : sj_H D A0 (X ++ pl) H) (hK : va_K D vwCl T s) (isC : List Nat) (hC : isC.map (fun i => (X ++ pl)[i]?) = cx.map some) (hn : va_nd isC = true) (isT : List Nat) (hT : isT.filterMap (fun i => T[i]?) = tc) (he : cx[0]? = some (b, .inr (ci, fs))) (hc : vwCl[ci]? = some q) (hbl : sj_bl Ex) (hE : ∀ U : State, U.heap = H → s.WarmedH U.vm → Ex U) : PreV s H q.1 b (va_Pc (.ref b :: As) (sj_B D cx tc H.size Ex)) As := by
  have h1 := sj_sub hH isC hn hC
  exact ⟨sj_blind hbl, va_recv hK h1.1 hc he, fun U hU hW => ⟨rfl, by rw [hU], by rw [hU]; exact h1.1, va_K.moved hW.alike (hK.sub isT hT), h1.2.weaken (fun _ _ _ _ => trivial), hE U hU hW⟩⟩
theorem sj_calli {S : Type} {post : Int32 → S → Prop} {W1 : S → va_W} {T1 : S → List (ClassId × FieldType)} {av : Array Value} (hr : va_Run p l e R s m args below meth c H locs cells slots mc ms (F0 m pc ls st0) rest (sj_Qi D post W1 T1 (va_A cx H.size) av) (va_A cx H.size)) (hH : sj_H D A0 (X ++ pl) H) (hK : va_K D vwCl T s) (hS : va_S A0 H0 H locs) (hA : ∀ q, H0.size ≤ q → A0 q) (isC isR : List Nat) (hC : isC.map (fun i => X[i]?) = cx.map some) (hC2 : isC.map (fun i => (X ++ pl)[i]?) = cx.map some) (hR : isR.map (fun i => X[i]?) = wr.map some) (hn : va_nd isR = true) (hdis : ∀ i ∈ isR, i ∉ isC) {k n : Nat} (hk : cells + mc = k) (hn2 : slots + ms = n)
    (kk : ∀ (r : Int32) (u : S) (H1 : Heap) (locs1 : List Loc), post r u → sj_H D A0 ((wr ++ W1 u) ++ pl) H1 → va_K D vwCl (T ++ T1 u) s → va_S A0 H0 H1 locs1 → W p l e R s m args below meth c H1 locs1 k n Q (F0 m (pc + 3) ls (.int r :: rest))) : W p l e R s m args below meth c H locs cells slots Q (F0 m pc ls st0) := by
  subst hk; subst hn2
  have hF := va_free (wc := cx) hH.2 hS hA isC hC2
  refine va_calli hr hS (fun q _ h => hF q h) hF (fun r u t H1 locs1 ht hvm hp hE hz hk1 hS1 => ?_)
  obtain ⟨e1, e2, e3⟩ := hE
  rw [ht] at e1
  exact kk r u H1 locs1 hp (va_joinQ hH.1 hH.2 isC isR hC hR hn hdis hk1 hF e1 e3) (hK.app (va_K.moved hvm.symm e2)) hS1
theorem sj_calld {S : Type} {post : UInt64 → S → Prop} {W1 : S → va_W} {T1 : S → List (ClassId × FieldType)} {av : Array Value} (hr : va_Run p l e R s m args below meth c H locs cells slots mc ms (F0 m pc ls st0) rest (sj_Qd D post W1 T1 (va_A cx H.size) av) (va_A cx H.size)) (hH : sj_H D A0 (X ++ pl) H) (hK : va_K D vwCl T s) (hS : va_S A0 H0 H locs) (hA : ∀ q, H0.size ≤ q → A0 q) (isC isR : List Nat) (hC : isC.map (fun i => X[i]?) = cx.map some) (hC2 : isC.map (fun i => (X ++ pl)[i]?) = cx.map some) (hR : isR.map (fun i => X[i]?) = wr.map some) (hn : va_nd isR = true) (hdis : ∀ i ∈ isR, i ∉ isC) {k n : Nat} (hk : cells + mc = k) (hn2 : slots + ms = n)
    (kk : ∀ (r : UInt64) (u : S) (H1 : Heap) (locs1 : List Loc), post r u → sj_H D A0 ((wr ++ W1 u) ++ pl) H1 → va_K D vwCl (T ++ T1 u) s → va_S A0 H0 H1 locs1 → W p l e R s m args below meth c H1 locs1 k n Q (F0 m (pc + 3) ls (.double r :: rest))) : W p l e R s m args below meth c H locs cells slots Q (F0 m pc ls st0) := by
  subst hk; subst hn2
  have hF := va_free (wc := cx) hH.2 hS hA isC hC2
  refine va_calld hr hS (fun q _ h => hF q h) hF (fun r u t H1 locs1 ht hvm hp hE hz hk1 hS1 => ?_)
  obtain ⟨e1, e2, e3⟩ := hE
  rw [ht] at e1
  exact kk r u H1 locs1 hp (va_joinQ hH.1 hH.2 isC isR hC hR hn hdis hk1 hF e1 e3) (hK.app (va_K.moved hvm.symm e2)) hS1
theorem sj_callv {S : Type} {post : S → Prop} {W1 : S → va_W} {T1 : S → List (ClassId × FieldType)} {av : Array Value} (hr : va_Run p l e R s m args below meth c H locs cells slots mc ms (F0 m pc ls st0) rest (sj_Qv D post W1 T1 (va_A cx H.size) av) (va_A cx H.size)) (hH : sj_H D A0 (X ++ pl) H) (hK : va_K D vwCl T s) (hS : va_S A0 H0 H locs) (hA : ∀ q, H0.size ≤ q → A0 q) (isC isR : List Nat) (hC : isC.map (fun i => X[i]?) = cx.map some) (hC2 : isC.map (fun i => (X ++ pl)[i]?) = cx.map some) (hR : isR.map (fun i => X[i]?) = wr.map some) (hn : va_nd isR = true) (hdis : ∀ i ∈ isR, i ∉ isC) {k n : Nat} (hk : cells + mc = k) (hn2 : slots + ms = n)
    (kk : ∀ (u : S) (H1 : Heap) (locs1 : List Loc), post u → sj_H D A0 ((wr ++ W1 u) ++ pl) H1 → va_K D vwCl (T ++ T1 u) s → va_S A0 H0 H1 locs1 → W p l e R s m args below meth c H1 locs1 k n Q (F0 m (pc + 3) ls rest)) : W p l e R s m args below meth c H locs cells slots Q (F0 m pc ls st0) := by
  subst hk; subst hn2
  have hF := va_free (wc := cx) hH.2 hS hA isC hC2
  refine va_callv hr hS (fun q _ h => hF q h) hF (fun u t H1 locs1 ht hvm hp hE hz hk1 hS1 => ?_)
  obtain ⟨e1, e2, e3⟩ := hE
  rw [ht] at e1
  exact kk u H1 locs1 hp (va_joinQ hH.1 hH.2 isC isR hC hR hn hdis hk1 hF e1 e3) (hK.app (va_K.moved hvm.symm e2)) hS1
end SJ
theorem sj_ao {C : String} {A : Array Value} {U : State} (h : (Cond.arrayOver (.object C)).before A U = true) : va_AO C U := va_AO.of h
theorem sj_vin {i : Int32} {n : Nat} (h0 : ¬ i < 0) (h : i.toNatClampNeg < n) : vp_in i n := fun z => z.elim h0 (fun q => absurd h (Nat.not_lt.mpr q))
theorem sj_as {D : va_G} {A : Nat → Prop} {wr cx p1 pl : va_W} {H : Heap} (h : sj_H D A ((wr ++ (cx ++ p1)) ++ pl) H) : sj_H D A ((wr ++ cx) ++ (p1 ++ pl)) H := by
  simpa only [List.append_assoc] using h
/-- what the constructors want of the tables beside their words -/
def sj_xc (U : State) : Prop := va_AO RX0 U ∧ va_AO RX2 U ∧ va_AO RX4 U ∧ va_AO RX6 U ∧ va_AO RX9 U ∧ va_AO RX10 U ∧ va_Nw (.methodLinkNest RX1 33 yX0_init "StoryDesk") U ∧ va_Nw (.methodLinkNest RX5 33 yX4_init "StoryDesk") U
theorem sj_xcb : sj_bl sj_xc := fun U g mk a h => ⟨va_AO.moved (U := U.calling g mk a) (Vm.Alike.refl U.vm) h.1, va_AO.moved (U := U.calling g mk a) (Vm.Alike.refl U.vm) h.2.1, va_AO.moved (U := U.calling g mk a) (Vm.Alike.refl U.vm) h.2.2.1, va_AO.moved (U := U.calling g mk a) (Vm.Alike.refl U.vm) h.2.2.2.1, va_AO.moved (U := U.calling g mk a) (Vm.Alike.refl U.vm) h.2.2.2.2.1, va_AO.moved (U := U.calling g mk a) (Vm.Alike.refl U.vm) h.2.2.2.2.2.1, va_Nw.same (U := U.calling g mk a) rfl rfl h.2.2.2.2.2.2.1, va_Nw.same (U := U.calling g mk a) rfl rfl h.2.2.2.2.2.2.2⟩
theorem sj_xcw {H : Heap} {s : State} (h : sj_xc s) : ∀ U : State, U.heap = H → s.WarmedH U.vm → sj_xc U := fun U _ hW => ⟨va_AO.moved hW.alike h.1, va_AO.moved hW.alike h.2.1, va_AO.moved hW.alike h.2.2.1, va_AO.moved hW.alike h.2.2.2.1, va_AO.moved hW.alike h.2.2.2.2.1, va_AO.moved hW.alike h.2.2.2.2.2.1, va_Nw.warmM hW h.2.2.2.2.2.2.1, va_Nw.warmM hW h.2.2.2.2.2.2.2⟩
theorem sj_df0 : ∀ j, j < 5 → defaultValue (tyX0 j) = vp_V [.null, .null, .null, .int 0, .int 0] j := by decide +kernel
theorem sj_df1 : ∀ j, j < 5 → defaultValue (tyX1 j) = vp_V [.null, .null, .null, .null, .int 0] j := by decide +kernel
theorem sj_df2 : ∀ j, j < 11 → defaultValue (tyX2 j) = vp_V [.null, .null, .int 0, .null, .null, .int 0, .int 0, .null, .null, .null, .null] j := by decide +kernel
theorem sj_df3 : ∀ j, j < 2 → defaultValue (tyX3 j) = vp_V [.null, .int 0] j := by decide +kernel
theorem sj_df4 : ∀ j, j < 9 → defaultValue (tyX4 j) = vp_V [.int 0, .int 0, .int 0, .int 0, .int 0, .int 0, .int 0, .int 0, .int 0] j := by decide +kernel
theorem sj_df5 : ∀ j, j < 19 → defaultValue (tyX5 j) = vp_V [.null, .int 0, .null, .null, .int 0, .null, .int 0, .null, .int 0, .null, .int 0, .null, .int 0, .null, .int 0, .int 0, .int 0, .null, .null] j := by decide +kernel
theorem sj_df6 : ∀ j, j < 4 → defaultValue (tyX6 j) = vp_V [.null, .null, .int 0, .int 0] j := by decide +kernel
theorem sj_df7 : ∀ j, j < 11 → defaultValue (tyX7 j) = vp_V [.null, .int 0, .int 0, .null, .int 0, .int 0, .int 0, .int 0, .int 0, .null, .int 0] j := by decide +kernel
theorem sj_df8 : ∀ j, j < 3 → defaultValue (tyX8 j) = vp_V [.null, .null, .null] j := by decide +kernel
theorem sj_df9 : ∀ j, j < 4 → defaultValue (tyX9 j) = vp_V [.null, .int 0, .int 0, .int 0] j := by decide +kernel
theorem sj_df10 : ∀ j, j < 8 → defaultValue (tyX10 j) = vp_V [.int 0, .int 0, .int 0, .int 0, .int 0, .double 0, .int 0, .int 0] j := by decide +kernel
theorem sj_df11 : ∀ j, j < 14 → defaultValue (tyX11 j) = vp_V [.null, .null, .null, .null, .null, .null, .null, .int 0, .null, .null, .null, .int 0, .null, .null] j := by decide +kernel
theorem sj_df12 : ∀ j, j < 86 → defaultValue (tyX12 j) = vp_V [.int 0, .null, .int 0, .null, .int 0, .null, .int 0, .int 0, .int 0, .int 0, .int 0, .int 0, .null, .int 0, .null, .null, .null, .int 0, .int 0, .null, .null, .null, .null, .int 0, .null, .null, .int 0, .int 0, .null, .null, .null, .null, .null, .int 0, .null, .null, .null, .null, .null, .null, .int 0, .int 0, .null, .null, .null, .int 0, .null, .null, .null, .int 0, .null, .null, .int 0, .null, .int 0, .int 0, .null, .int 0, .null, .null, .null, .null, .null, .null, .null, .int 0, .int 0, .int 0, .null, .null, .null, .null, .null, .null, .int 0, .int 0, .int 0, .int 0, .int 0, .int 0, .int 0, .int 0, .null, .null, .null, .null] j := by decide +kernel
