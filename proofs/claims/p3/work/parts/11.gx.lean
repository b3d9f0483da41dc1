/-! what every method may want of the machine beside the one heap: the constant strings, two statics, what throwing wants -/
def jLen : List Nat := [4, 5, 5, 5, 5]
def jByt : List (List Int32) := [[105, 100, 119, 115], [80, 81, 72, 67, 88], [70, 82, 66, 83, 69], [68, 78, 90, 85, 42], [71, 87, 84, 65, 42]]
def jMay : List Int32 := [10, 626, 850, 342, 978, 470, 726, 214, 626]
def gt (U : State) : Prop := (sj_nw "java/lang/IllegalStateException" U ∧ sj_nw "java/lang/IndexOutOfBoundsException" U ∧ sj_nw "java/lang/IllegalArgumentException" U ∧ sj_nw "java/lang/UnsupportedOperationException" U)
def gr (ad : Nat → Nat) (U : State) : Prop := vk_R RX2 81 "idws" (ad 0) U ∧ vk_R RX5 139 "PQHCX" (ad 1) U ∧ vk_R RX5 141 "FRBSE" (ad 2) U ∧ vk_R RX5 148 "DNZU*" (ad 3) U ∧ vk_R RX5 150 "GWTA*" (ad 4) U
def gs (ad : Nat → Nat) (A : Nat → Prop) (U : State) (H : Heap) : Prop := vk_S 5 jLen jByt ad (fun n => ad (5 + n)) A U H ∧ va_Z "java/lang/String" "COMPACT_STRINGS" "Z" (.int 1) A U H ∧ va_Z "StoryDesk$Reading" "MAY_COME" "[I" (.ref (ad 10)) A U H ∧ va_T .int (ad 10) 9 (fun j => .int (jMay.getD j 0)) A U H ∧ vx_Zq Bundle.tN "UNASSIGNED_STACK" Bundle.steD A U H ∧ vx_Zq Bundle.tN "SUPPRESSED_SENTINEL" Bundle.listD A U H
def gx (ad : Nat → Nat) (A : Nat → Prop) (U : State) : Prop := gs ad A U U.heap ∧ gr ad U ∧ gt U
theorem gs.moved {ad : Nat → Nat} {A : Nat → Prop} {u U : State} {H : Heap} (hvm : u.vm.Alike U.vm) (h : gs ad A u H) : gs ad A U H := ⟨h.1.moved hvm, h.2.1.moved hvm, h.2.2.1.moved hvm, h.2.2.2.1.moved hvm, h.2.2.2.2.1.moved hvm, h.2.2.2.2.2.moved hvm⟩
theorem gs.kept {ad : Nat → Nat} {A : Nat → Prop} {U : State} {H H1 : Heap} (h : gs ad A U H) (hq : ∀ a : Nat, a < H.size → ¬ A a → H1[a]? = H[a]?) : gs ad A U H1 := ⟨h.1.kept hq, h.2.1.kept hq, h.2.2.1.kept hq, h.2.2.2.1.kept hq, h.2.2.2.2.1.kept hq, h.2.2.2.2.2.kept hq⟩
theorem gs.narrow {ad : Nat → Nat} {A B : Nat → Prop} {U : State} {H : Heap} (h : gs ad A U H) (hAB : ∀ q, B q → A q) : gs ad B U H := ⟨h.1.narrow hAB, h.2.1.narrow hAB, h.2.2.1.narrow hAB, h.2.2.2.1.narrow hAB, h.2.2.2.2.1.narrow hAB, h.2.2.2.2.2.narrow hAB⟩
theorem gxb {ad : Nat → Nat} {A : Nat → Prop} : sj_bl (gx ad A) := fun U g mk a h => ⟨gs.moved (U := U.calling g mk a) (Vm.Alike.refl U.vm) h.1, ⟨vk_R.same rfl h.2.1.1, vk_R.same rfl h.2.1.2.1, vk_R.same rfl h.2.1.2.2.1, vk_R.same rfl h.2.1.2.2.2.1, vk_R.same rfl h.2.1.2.2.2.2⟩, ⟨sj_nwb (V := U.calling g mk a) rfl h.2.2.1, sj_nwb (V := U.calling g mk a) rfl h.2.2.2.1, sj_nwb (V := U.calling g mk a) rfl h.2.2.2.2.1, sj_nwb (V := U.calling g mk a) rfl h.2.2.2.2.2⟩⟩
theorem gxw {ad : Nat → Nat} {A B : Nat → Prop} {s : State} {H : Heap} {locs : List Loc} (hE : gx ad A s) (hS : va_S A s.heap H locs) (hF : ∀ q, B q → A q) : ∀ U : State, U.heap = H → s.WarmedH U.vm → gx ad B U := by
  intro U hU hW
  refine ⟨?_, ⟨hE.2.1.1.warm hW, hE.2.1.2.1.warm hW, hE.2.1.2.2.1.warm hW, hE.2.1.2.2.2.1.warm hW, hE.2.1.2.2.2.2.warm hW⟩, ⟨sj_nww hW hE.2.2.1, sj_nww hW hE.2.2.2.1, sj_nww hW hE.2.2.2.2.1, sj_nww hW hE.2.2.2.2.2⟩⟩
  rw [hU]
  exact gs.moved hW.alike ((hE.1.kept hS.2.1).narrow hF)
/-- a method over the one heap -/
theorem x_met {l : Launch} {y : MethodName} {ws ws' : List Cond} {rm : Room} {mc ms : Nat} {cc : ByteArray} {maxL : Nat} {ret : Option FieldType} {D : va_G} {X : va_W} {T : List (ClassId × FieldType)} {sz : Nat} {Ex : (Nat → Prop) → State → Prop} {av : List Value} {Qc : (Nat → Prop) → Array Value → State → Outcome → State → Prop}
    (hy : plainName y.cls = true) (hw : ws = Cond.code y cc maxL ret :: ws') (hav : (lg_sl av).length ≤ maxL)
    (body : ∀ (p : Program) (e : Env) (s : State) (m : MethodId) (below : List Frame) (meth : Method) (c : Code) (A : Nat → Prop) (ls : Array Slot), p.tables.exec = Jvm.exec → c.code = cc → meth.sig.returnType = ret → c.maxLocals = maxL → (∀ w ∈ ws, w.before av.toArray s = true) → s.vm.findClass y.cls = some m.cls → meth.locks = false → (∀ q, s.heap.size ≤ q → A q) → va_S A s.heap s.heap [] → sj_H D A X s.heap → va_K D vwCl T s → Ex A s → lv_has ls maxL (lv_args 0 av) →
      W p l e (headSpec ws rm).room s m av.toArray below meth c s.heap [] 0 0 (MQ below (Qc A) av.toArray s mc ms A) (F0 m 0 ls [])) : Met l y ws rm (va_Pc av (sj_B D X T sz (Ex (va_A X sz)))) (Qc (va_A X sz)) mc ms (va_A X sz) := by
  refine Met.ofW (cc := cc) (maxL := maxL) (ret := ret) hy hw ?_
  intro p e s m args below meth c s₁ B hml hv
  obtain ⟨rfl, hsz, hP, hK, hD0, hE⟩ := hv
  subst hsz
  have hD := hD0.self (sz := s.heap.size)
  have hl := lv_entry av (n := maxL) hav
  rw [lg_entry_eq]
  exact body p e s m below meth c _ _ B.exec B.bytes B.returns hml (atoms_spec (ws := ws) B.pre) (findClass_of_methodNamed B.named) B.notSynchronized (fun q h => Or.inr h) va_S.rf ⟨hP, hD⟩ hK hE hl
theorem x_F {D : va_G} {A : Nat → Prop} {X : va_W} {s : State} {H : Heap} {locs : List Loc} (hH : sj_H D A X H) (hS : va_S A s.heap H locs) (hA : ∀ q, s.heap.size ≤ q → A q) : ∀ q, va_A X H.size q → A q := fun q h => x_sub hH q h (fun q h2 => hA q (Nat.le_trans hS.1 h2))
theorem kd_wk {j : Nat} (h : j < 3) : kd (25 + 1 * j) = 10 := by
  rcases (show j = 0 ∨ j = 1 ∨ j = 2 by omega) with rfl | rfl | rfl <;> rfl
theorem bx_wk {j : Nat} (h : j < 3) (k : Nat) : bx (25 + 1 * j) k = bx 25 k := by
  rcases (show j = 0 ∨ j = 1 ∨ j = 2 by omega) with rfl | rfl | rfl <;> rfl
