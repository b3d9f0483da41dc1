/-! returns of longs and references; a copied stretch of chars -/
section B3
variable {p : Program} {l : Launch} {e : Env} {R : Room} {s : State} {m : MethodId} {args : Array Value} {below : List Frame} {meth : Method} {c : Code} {H : Heap} {locs : List Loc} {cells slots : Nat} {Q : State → Prop}
variable {cc : ByteArray} {pc : Nat} {ls : Array Slot} {rest : List Value} {D : va_G} {A : Nat → Prop} {T : List (ClassId × FieldType)} {H0 : Heap} {mc ms : Nat}
theorem sj_lret {S : Type} {post : Int64 → S → Prop} {W1 : S → va_W} {T1 : S → List (ClassId × FieldType)} {v : Int64} (hexec : p.tables.exec = Jvm.exec) (hb : c.code = cc) (hr : meth.sig.returnType = some .long) (hlocks : meth.locks = false) (hS : va_S A s.heap H locs) (u : S) (hp : post v u) (hH : sj_H D A (W1 u) H) (hT : va_K D vwCl (T1 u) s) (hc : cells ≤ mc) (hs : slots ≤ ms) (hdg : decode cc pc = .ok (.lreturn, 1)) :
    W p l e R s m args below meth c H locs cells slots (MQ below (sj_Ql D post W1 T1 A) args s mc ms A) (F0 m pc ls [.long v]) := by
  refine W.widen hc hs ?_
  exact W.lret hexec hb hr (fun t ht hW => ⟨⟨v, u, rfl, hp, by rw [ht]; exact hH.1, va_K.moved hW.alike hT, hH.2⟩, hS.F ht⟩) hS.2.2 hdg
theorem sj_qret {S : Type} {post : Option Nat → S → Prop} {W1 : S → va_W} {T1 : S → List (ClassId × FieldType)} {a : Nat} {nm : String} (hexec : p.tables.exec = Jvm.exec) (hb : c.code = cc) (hr : meth.sig.returnType = some (.object nm)) (hlocks : meth.locks = false) (hS : va_S A s.heap H locs) (u : S) (hp : post (some a) u) (hH : sj_H D A (W1 u) H) (hT : va_K D vwCl (T1 u) s) (hc : cells ≤ mc) (hs : slots ≤ ms) (hdg : decode cc pc = .ok (.areturn, 1)) :
    W p l e R s m args below meth c H locs cells slots (MQ below (sj_Qq D post W1 T1 A) args s mc ms A) (F0 m pc ls [.ref a]) := by
  refine W.widen hc hs ?_
  exact W.aret hexec hb hr (Or.inl ⟨nm, rfl⟩) (Or.inr ⟨a, rfl⟩) (fun t ht hW => ⟨⟨some a, u, rfl, hp, by rw [ht]; exact hH.1, va_K.moved hW.alike hT, hH.2⟩, hS.F ht⟩) hS.2.2 hdg
variable {g : Nat → Nat} {ka : Nat → ClassId} {i : Nat → Nat → Int32} {r : Nat → Nat → Nat} {L : Nat → Nat → Int64} {d : Nat → Nat → UInt64} {n k : Nat}
theorem put_row {f : Nat → Int32} (hk : kd n = k) (h1 : 13 ≤ k) (h2 : k < 16) : (hwc g ka i r L d).set n (g n, .inl (ka n, ln n, .inl f)) = hwc g ka (va_up i n f) r L d := by
  rw [hw_set, cel_put (i' := va_up i n f) (r' := r) (L' := L) (d' := d) (fun a h => ⟨va_up_ne _ _ h, rfl, rfl, rfl⟩)]
  unfold cel ce; rw [hk, if_neg (by omega), if_pos h2, va_up_self]
theorem s_fc {v : Int32} (h : 0 ≤ v.toInt ∧ v.toInt ≤ 65535) : fits .char (.int v) = true := by
  rw [s_ofN (x := v) rfl h.1 (by omega)]
  exact (pk_charN (by omega)).2
theorem h_copyc (hexec : p.tables.exec = Jvm.exec) (hb : c.code = cc) (hml : c.maxLocals = ls.size) {own : String} {index : Nat} (hown : s.vm.findClass own = some m.cls) (hlink : (Cond.methodLink own index arraycopyName).before args s = true) (hnat : (Cond.native arraycopyName).before args s = true) (hstat : (Cond.static arraycopyName).before args s = true) (hini : (Cond.initialized "java/lang/System").before args s = true)
    (hK : va_K D vwCl (hT ka) s) (hH : sj_H D A (hwc g ka i r L d) H) (hS : va_S A H0 H locs) {a b : Nat} (ha : a < nK) (hb2 : b < nK) (hka : kd a = 14) (hkb : kd b = 14) {sp dp x : Int32} {N : Nat} (hsp : sp.toNatClampNeg = 0) (hdp : dp.toNatClampNeg = 0) (h1 : ¬ sp < 0) (h2 : ¬ dp < 0) (h3 : ¬ x < 0) (hx : x.toNatClampNeg = N) (h4 : N ≤ ln a) (h5 : N ≤ ln b) (hfit : ∀ j, 0 ≤ (i a j).toInt ∧ (i a j).toInt ≤ 65535)
    (hframes : 1 ≤ R.frames) (hlocals : (rest.map fun v => v.category).sum + (nativeFrameWords "java/lang/System" "arraycopy" 5 + 11) ≤ R.locals) (hdg : decode cc pc = .ok (.invokestatic index, 3))
    (kk : ∀ (H1 : Heap) (locs1 : List Loc), sj_H D A (hwc g ka (va_up i b (va_cpy (i a) (i b) 0 0 N)) r L d) H1 → va_S A H0 H1 locs1 → W p l e R s m args below meth c H1 locs1 cells slots Q (F0 m (pc + 3) ls rest)) : W p l e R s m args below meth c H locs cells slots Q (F0 m pc ls (.int x :: .int dp :: .ref (g b) :: .int sp :: .ref (g a) :: rest)) := by
  refine va_copyi hexec hb hml hown hlink hnat hstat hini hK hH.1 hH.2 hS a b a b (q_int ha hka (by decide) (by decide)) (q_int hb2 hkb (by decide) (by decide)) (hT_get ha hka rfl) (hT_get hb2 hkb rfl) rfl h1 h2 h3 (by rw [hsp, hx]; omega) (by rw [hdp, hx]; omega) (fun j _ => s_fc (hfit _)) hframes hlocals hdg (fun H1 l1 hP hD hS1 => ?_)
  rw [hsp, hdp, hx, put_row hkb (by decide) (by decide)] at hP hD
  exact kk H1 l1 ⟨hP, hD⟩ hS1
end B3
theorem cpy_at {f h : Nat → Int32} {N k : Nat} (hk : k < N) : va_cpy f h 0 0 N k = f k := by
  unfold va_cpy; rw [if_pos ⟨Nat.zero_le _, by omega⟩]; congr 1; omega
theorem s_max {x y z : Int32} {a b : Int} (hx : x.toInt = a) (hy : y.toInt = b) (ez : (if x < y then y else x) = z) : (a ≤ b ∧ z.toInt = b) ∨ (b ≤ a ∧ z.toInt = a) := by
  by_cases h : x < y
  · rw [if_pos h] at ez; have h9 := s_lt hx hy h; subst ez; exact Or.inl ⟨by omega, hy⟩
  · rw [if_neg h] at ez; have h9 := s_nlt hx hy h; subst ez; exact Or.inr ⟨h9, hx⟩
theorem s_min {x y z : Int32} {a b : Int} (hx : x.toInt = a) (hy : y.toInt = b) (ez : (if y < x then y else x) = z) : (a ≤ b ∧ z.toInt = a) ∨ (b ≤ a ∧ z.toInt = b) := by
  by_cases h : y < x
  · rw [if_pos h] at ez; have h9 := s_lt hy hx h; subst ez; exact Or.inr ⟨by omega, hy⟩
  · rw [if_neg h] at ez; have h9 := s_nlt hy hx h; subst ez; exact Or.inl ⟨h9, hx⟩
theorem lt_nK {n : Nat} (h : n < 430) : n < nK := h
theorem sj_lcmp {p : Program} {l : Launch} {e : Env} {R : Room} {s : State} {m : MethodId} {args : Array Value} {below : List Frame} {meth : Method} {c : Code} {H : Heap} {locs : List Loc} {cells slots : Nat} {Q : State → Prop} {cc : ByteArray} {pc : Nat} {ls : Array Slot} {rest : List Value} (hexec : p.tables.exec = Jvm.exec) (hb : c.code = cc) {x y : Int64} (hdg : decode cc pc = .ok (.lcmp, 1))
    (k : W p l e R s m args below meth c H locs cells slots Q (F0 m (pc + 1) ls (.int (if y < x then 1 else if x = y then 0 else -1) :: rest))) : W p l e R s m args below meth c H locs cells slots Q (F0 m pc ls (.long y :: .long x :: rest)) := by
  intro T hT X
  obtain ⟨t, a, b⟩ := k T hT X
  refine ⟨t, ?_, b⟩
  by_cases h1 : y < x
  · rw [if_pos h1] at a
    jvm_step X.here [X.here.top, hexec, hb, hdg, h1]
    exact a
  · rw [if_neg h1] at a
    by_cases h2 : x = y
    · rw [if_pos h2] at a
      subst h2
      jvm_step X.here [X.here.top, hexec, hb, hdg]
      exact a
    · rw [if_neg h2] at a
      jvm_step X.here [X.here.top, hexec, hb, hdg, h1, h2]
      exact a
