/-! throwing, in the words of the base -/
def sj_nw (X : String) (U : State) : Prop := va_Nw (.castable X X) U ∧ va_Nw (.declares (Bundle.init0 "java/lang/RuntimeException")) U ∧ va_Nw (.declares (Bundle.init0 "java/lang/Exception")) U ∧ va_Nw (.declares (Bundle.init0 Bundle.tN)) U
def sj_xt (X : String) (A : Nat → Prop) (U : State) : Prop := vx_Zq Bundle.tN "UNASSIGNED_STACK" Bundle.steD A U U.heap ∧ vx_Zq Bundle.tN "SUPPRESSED_SENTINEL" Bundle.listD A U U.heap ∧ sj_nw X U
theorem sj_nwb {X : String} {U V : State} (h : U.vm = V.vm) (hn : sj_nw X U) : sj_nw X V := ⟨va_Nw.same rfl h hn.1, va_Nw.same rfl h hn.2.1, va_Nw.same rfl h hn.2.2.1, va_Nw.same rfl h hn.2.2.2⟩
theorem sj_nww {X : String} {s U : State} (hW : s.WarmedH U.vm) (hn : sj_nw X s) : sj_nw X U := ⟨va_Nw.warmC hW hn.1, va_Nw.warmD hW hn.2.1, va_Nw.warmD hW hn.2.2.1, va_Nw.warmD hW hn.2.2.2⟩
theorem sj_xtb {X : String} {A : Nat → Prop} : sj_bl (sj_xt X A) := fun U g mk a h => ⟨vx_Zq.moved (U := U.calling g mk a) (Vm.Alike.refl U.vm) h.1, vx_Zq.moved (U := U.calling g mk a) (Vm.Alike.refl U.vm) h.2.1, sj_nwb (V := U.calling g mk a) rfl h.2.2⟩
theorem sj_xtw {X : String} {A : Nat → Prop} {s : State} {H : Heap} {locs : List Loc} {cx ws : va_W} (hE : sj_xt X A s) (hD : va_D A ws) (hS : va_S A s.heap H locs) (hA : ∀ q, s.heap.size ≤ q → A q) (isC : List Nat) (hC : isC.map (fun i => ws[i]?) = cx.map some) : ∀ U : State, U.heap = H → s.WarmedH U.vm → sj_xt X (va_A cx H.size) U := by
  intro U hU hW
  have hF := va_free (wc := cx) hD hS hA isC hC
  refine ⟨?_, ?_, sj_nww hW hE.2.2⟩
  · rw [hU]; exact vx_Zq.moved hW.alike ((hE.1.kept hS.2.1).narrow hF)
  · rw [hU]; exact vx_Zq.moved hW.alike ((hE.2.1.kept hS.2.1).narrow hF)
def sj_XC (cls : String) (px : Prop) (A : Nat → Prop) : String → State → State → Prop := vx_X (S := Unit) (fun _ => px) (fun E _ _ => E = cls) A
theorem sj_vmet {l : Launch} {y : MethodName} {ws ws' : List Cond} {rm : Room} {mc ms : Nat} {cc : ByteArray} {maxL : Nat} {ret : Option FieldType} {D : va_G} {X : va_W} {T : List (ClassId × FieldType)} {sz : Nat} {Ex : (Nat → Prop) → State → Prop} {av : List Value} {Qc : (Nat → Prop) → Array Value → State → Outcome → State → Prop} {XC : (Nat → Prop) → String → State → State → Prop}
    (hy : plainName y.cls = true) (hw : ws = Cond.code y cc maxL ret :: ws') (hav : (lg_sl av).length ≤ maxL)
    (body : ∀ (p : Program) (e : Env) (s : State) (m : MethodId) (below : List Frame) (meth : Method) (c : Code) (A : Nat → Prop) (ls : Array Slot), p.tables.exec = Jvm.exec → c.code = cc → meth.sig.returnType = ret → c.maxLocals = maxL → (∀ w ∈ ws, w.before av.toArray s = true) → s.vm.findClass y.cls = some m.cls → meth.locks = false → (∀ x ∈ c.exceptionTable.toList, False) → (∀ q, s.heap.size ≤ q → A q) → s.heap.size = sz → va_S A s.heap s.heap [] → sj_H D A (X ++ []) s.heap → va_K D vwCl T s → Ex A s → lv_has ls maxL (lv_args 0 av) →
      W p l e (headSpec ws rm).room s m av.toArray below meth c s.heap [] 0 0 (vx_MQ below (Qc A) (XC A) av.toArray s mc ms A) (F0 m 0 ls [])) : vx_Met l y ws rm (va_Pc av (sj_B D X T sz (Ex (va_A X sz)))) (Qc (va_A X sz)) (XC (va_A X sz)) mc ms (va_A X sz) := by
  refine vx_ofW (cc := cc) (maxL := maxL) (ret := ret) hy hw ?_
  intro p e s m args below meth c s₁ B hml hnt hv
  obtain ⟨rfl, hsz, hP, hK, hD0, hE⟩ := hv
  subst hsz
  have hD := hD0.self (sz := s.heap.size)
  have hl := lv_entry av (n := maxL) hav
  rw [lg_entry_eq]
  refine body p e s m below meth c _ _ B.exec B.bytes B.returns hml (atoms_spec (ws := ws) B.pre) (findClass_of_methodNamed B.named) B.notSynchronized hnt (fun q h => Or.inr h) rfl va_S.rf ?_ hK hE hl
  rw [List.append_nil]
  exact ⟨hP, hD⟩
section SX
variable {p : Program} {l : Launch} {e : Env} {R : Room} {s : State} {m : MethodId} {args : Array Value} {below : List Frame} {meth : Method} {c : Code} {H : Heap} {locs : List Loc} {cells slots : Nat} {Q : State → Prop}
variable {cc : ByteArray} {pc : Nat} {ls : Array Slot} {rest st0 : List Value} {D : va_G} {A A0 : Nat → Prop} {a b : Nat} {T tc : List (ClassId × FieldType)} {X cx wr pl : va_W} {H0 : Heap} {mc ms : Nat} {Qc : Array Value → State → Outcome → State → Prop}
theorem sj_throw (hexec : p.tables.exec = Jvm.exec) (hb : c.code = cc) (hl : l.stackTraces = false) {own cls : String} {ik ic : Nat} {px : Prop} (hp : px)
    (hown : s.vm.findClass own = some m.cls) (hcls : Bundle.fit cls = true)
    (hk : (Cond.classLink own ik cls).before args s = true) (hini : (Cond.initialized cls).before args s = true) (hat : ∀ w ∈ (vx_at0 own ic cls ["java/lang/RuntimeException", "java/lang/Exception"]).filter goodWord, w.before args s = true)
    (hat2 : ∀ w ∈ (vx_at0 own ic cls ["java/lang/RuntimeException", "java/lang/Exception"]).filter (fun w => !goodWord w), w ∈ [Cond.castable cls cls, .declares (Bundle.init0 "java/lang/RuntimeException"), .declares (Bundle.init0 "java/lang/Exception"), .declares (Bundle.init0 Bundle.tN)])
    (hgood : ∀ w ∈ Cond.classLink own ik cls :: Cond.initialized cls :: vx_at0 own ic cls ["java/lang/RuntimeException", "java/lang/Exception"], vx_ot w = true)
    (hE : sj_xt cls A s) (hS : va_S A s.heap H locs) (hsize : ls.size = c.maxLocals)
    (d0 : decode cc pc = .ok (.new ik, 3)) (d3 : decode cc (pc + 3) = .ok (.dup, 1)) (d4 : decode cc (pc + 4) = .ok (.invokespecial ic, 3)) (d7 : decode cc (pc + 7) = .ok (.athrow, 1))
    (hnt : ∀ x ∈ c.exceptionTable.toList, False)
    (hRframes : 6 ≤ R.frames) (hRlocals : (rest.map fun v => v.category).sum + 81 ≤ R.locals) (hRcells : cells + 1 ≤ R.cells) (hRslots : slots + 6 ≤ R.slots) (hlocks : meth.locks = false) (hc : cells + 1 ≤ mc) (hs : slots + 6 ≤ ms) :
    W p l e R s m args below meth c H locs cells slots (vx_MQ below Qc (sj_XC cls px A) args s mc ms A) (F0 m pc ls rest) := by
  refine vx_throw0 (names := ["java/lang/RuntimeException", "java/lang/Exception"]) hexec hb hl hown hcls (by decide) hk hini (vx_hat hat hat2 (vx_c (va_Nw.use rfl hE.2.2.1) (vx_c (va_Nw.use rfl hE.2.2.2.1) (vx_c (va_Nw.use rfl hE.2.2.2.2.1) (vx_c (va_Nw.use rfl hE.2.2.2.2.2) vx_n))))) hgood hE.1 hE.2.1 hS hsize d0 d3 d4 d7 (fun x h => (hnt x h).elim) hRframes hRlocals hRcells hRslots hlocks ?_ hS.2.2 hc hs
  intro t _ h1 h2
  exact ⟨(), hp, rfl, Nat.le_trans hS.1 h1, fun q hq hnA => (h2 q (Nat.lt_of_lt_of_le hq hS.1)).trans (hS.2.1 q hq hnA)⟩
end SX
