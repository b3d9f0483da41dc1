/-! methods of the law with a table of handlers -/
def sj_ISE : String := "java/lang/IllegalStateException"
def sj_IAE : String := "java/lang/IllegalArgumentException"
def sj_xh (X : String) (A : Nat → Prop) (U : State) : Prop := sj_xt X A U ∧ va_Nc "java/lang/IllegalArgumentException" "java/lang/IllegalStateException" U
theorem sj_ncm {C T : String} {u U : State} (hvm : u.vm.Alike U.vm) (h : va_Nc C T u) : va_Nc C T U := by
  obtain ⟨c, t, h1, h2, h3⟩ := h
  exact ⟨c, t, by rw [hvm.findClass]; exact h1, by rw [hvm.findClass]; exact h2, by rw [hvm.assignable]; exact h3⟩
theorem sj_xhb {X : String} {A : Nat → Prop} : sj_bl (sj_xh X A) := fun U g mk a h => ⟨sj_xtb U g mk a h.1, sj_ncm (U := U.calling g mk a) (Vm.Alike.refl U.vm) h.2⟩
theorem sj_xhw {X : String} {A : Nat → Prop} {s : State} {H : Heap} {locs : List Loc} {cx ws : va_W} (hE : sj_xh X A s) (hD : va_D A ws) (hS : va_S A s.heap H locs) (hA : ∀ q, s.heap.size ≤ q → A q) (isC : List Nat) (hC : isC.map (fun i => ws[i]?) = cx.map some) : ∀ U : State, U.heap = H → s.WarmedH U.vm → sj_xh X (va_A cx H.size) U := fun U hU hW => ⟨sj_xtw hE.1 hD hS hA isC hC U hU hW, sj_ncm hW.alike hE.2⟩
theorem sj_hmet {l : Launch} {y : MethodName} {ws ws' : List Cond} {rm : Room} {mc ms : Nat} {cc : ByteArray} {maxL : Nat} {ret : Option FieldType} {hh : List (Nat × Nat × Nat × Nat)} {D : va_G} {X : va_W} {T : List (ClassId × FieldType)} {sz : Nat} {Ex : (Nat → Prop) → State → Prop} {av : List Value} {Qc : (Nat → Prop) → Array Value → State → Outcome → State → Prop}
    (hy : plainName y.cls = true) (hw : ws = Cond.codeWith y cc maxL ret hh :: ws') (hav : (lg_sl av).length ≤ maxL)
    (body : ∀ (p : Program) (e : Env) (s : State) (m : MethodId) (below : List Frame) (meth : Method) (c : Code) (A : Nat → Prop) (ls : Array Slot), p.tables.exec = Jvm.exec → c.code = cc → meth.sig.returnType = ret → c.maxLocals = maxL → (∀ w ∈ ws, w.before av.toArray s = true) → s.vm.findClass y.cls = some m.cls → meth.locks = false → c.exceptionTable.toList = tableOf hh → (∀ q, s.heap.size ≤ q → A q) → s.heap.size = sz → va_S A s.heap s.heap [] → sj_H D A (X ++ []) s.heap → va_K D vwCl T s → Ex A s → lv_has ls maxL (lv_args 0 av) →
      W p l e (headSpec ws rm).room s m av.toArray below meth c s.heap [] 0 0 (MQ below (Qc A) av.toArray s mc ms A) (F0 m 0 ls [])) : Met l y ws rm (va_Pc av (sj_B D X T sz (Ex (va_A X sz)))) (Qc (va_A X sz)) mc ms (va_A X sz) := by
  have h : vx_Met l y ws rm (va_Pc av (sj_B D X T sz (Ex (va_A X sz)))) (Qc (va_A X sz)) (fun _ _ _ => False) mc ms (va_A X sz) := by
    refine vx_ofWH (cc := cc) (maxL := maxL) (ret := ret) (hh := hh) hy hw ?_
    intro p e s m args below meth c s₁ B hml hv
    obtain ⟨rfl, hsz, hP, hK, hD0, hE⟩ := hv
    subst hsz
    have hD := hD0.self (sz := s.heap.size)
    have hl := lv_entry av (n := maxL) hav
    rw [lg_entry_eq]
    have htb := vx_table (x := y) B (atoms_spec (ws := ws) B.pre _ (by rw [hw]; exact List.mem_cons_self))
    refine vx_ret ?_
    refine body p e s m below meth c _ _ B.exec B.bytes B.returns hml (atoms_spec (ws := ws) B.pre) (findClass_of_methodNamed B.named) B.notSynchronized htb (fun q h => Or.inr h) rfl va_S.rf ?_ hK hE hl
    rw [List.append_nil]
    exact ⟨hP, hD⟩
  intro p e ha hc hk s m args below hf happ hP hK
  obtain ⟨n, o, h1, h2, h3, h4⟩ := h p e ha hc hk s m args below hf happ hP hK
  refine ⟨n, o, h1, h2, h3, ?_⟩
  rcases h4 with h4 | ⟨q, -, E, ce, L, hx, -⟩
  · exact h4
  · exact hx.elim
section SV
variable {p : Program} {l : Launch} {e : Env} {R : Room} {s : State} {m : MethodId} {args : Array Value} {below : List Frame} {meth : Method} {c : Code} {H : Heap} {locs : List Loc} {cells slots : Nat} {Q : State → Prop}
variable {pc : Nat} {ls : Array Slot} {rest st0 : List Value} {D : va_G} {A0 : Nat → Prop} {T : List (ClassId × FieldType)} {X cx wr pl : va_W} {H0 : Heap} {mc ms : Nat}
theorem sj_vcalli {S : Type} {post : Int32 → S → Prop} {W1 : S → va_W} {T1 : S → List (ClassId × FieldType)} {cls : String} {px : Prop} {av : Array Value} (hr : vx_Run p l e R s m args below meth c H locs cells slots mc ms (F0 m pc ls st0) rest (sj_Qi D post W1 T1 (va_A cx H.size) av) (sj_XC cls px (va_A cx H.size)) (va_A cx H.size)) (hH : sj_H D A0 (X ++ pl) H) (hK : va_K D vwCl T s) (hS : va_S A0 H0 H locs) (hA : ∀ q, H0.size ≤ q → A0 q) (isC isR : List Nat) (hC : isC.map (fun i => X[i]?) = cx.map some) (hC2 : isC.map (fun i => (X ++ pl)[i]?) = cx.map some) (hR : isR.map (fun i => X[i]?) = wr.map some) (hn : va_nd isR = true) (hdis : ∀ i ∈ isR, i ∉ isC) {k n : Nat} (hk : cells + mc = k) (hn2 : slots + ms = n)
    (kx : ∀ (ce : Cell) (q9 : Addr) (H1 : Heap) (locs1 : List Loc), px → sj_H D A0 (wr ++ pl) H1 → va_S A0 H0 H1 locs1 → H1[q9]? = some ce → ce.vm = .none → s.vm.findClass cls = some ce.cls → vx_W p l e R s m args below meth c H1 locs1 k n Q (F0 m pc ls rest) q9)
    (kk : ∀ (r : Int32) (u : S) (H1 : Heap) (locs1 : List Loc), post r u → sj_H D A0 ((wr ++ W1 u) ++ pl) H1 → va_K D vwCl (T ++ T1 u) s → va_S A0 H0 H1 locs1 → W p l e R s m args below meth c H1 locs1 k n Q (F0 m (pc + 3) ls (.int r :: rest))) : W p l e R s m args below meth c H locs cells slots Q (F0 m pc ls st0) := by
  subst hk; subst hn2
  have hF := va_free (wc := cx) hH.2 hS hA isC hC2
  refine vx_calli hr hS (fun q _ h => hF q h) hF (fun q _ h => hF q h) (fun E ce q9 u t H1 locs1 ht hvm hp hE hz hk1 hS1 hce hcv hcl => ?_) (fun r u t H1 locs1 ht hvm hp hE hz hk1 hS1 => ?_)
  · subst hE
    have hj := va_joinQ (w1 := []) hH.1 hH.2 isC isR hC hR hn hdis hk1 hF (fun k q h => by simp at h) ⟨fun i j p q h => by simp at h, fun k q h => by simp at h⟩
    rw [List.append_nil] at hj
    exact kx ce q9 H1 locs1 hp hj hS1 hce hcv hcl
  · obtain ⟨e1, e2, e3⟩ := hE
    rw [ht] at e1
    exact kk r u H1 locs1 hp (va_joinQ hH.1 hH.2 isC isR hC hR hn hdis hk1 hF e1 e3) (hK.app (va_K.moved hvm.symm e2)) hS1
end SV
