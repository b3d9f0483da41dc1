/-! THE CLAIM OUT OF ONE WALK OF THE LAW'S BODY. Your part is whole_start (and what it stands on); all else here is the same for every law, but numbers. -/
def R_law : String := "StoryDeskLaw"
def lw_P (b : Addr) (xs : List Int32) (args : Array Value) (s : State) : Prop := args = #[.ref b] ∧ s.IntsAt b xs ∧ xs.length ≤ 6 ∧ (Jvm.Cond.and given_1 narrow_1).before args s = true
def lw_Q (_ : Array Value) (s : State) (o : Outcome) (t : State) : Prop := o = .returned (some (.int 1)) ∧ Framed s o t [] 600002 7302232
def lw_Z (below : List Frame) (a : Array Value) (s : State) : State → Prop := fun t => ∃ o, t.status = .running ∧ Ended t below o ∧ lw_Q a s o t
/-- the law's own end, with 1 on the stack, nothing written that was there before, its room as the claim has it -/
theorem lw_ret {p : Program} {l : Launch} {e : Env} {s : State} {m : MethodId} {below : List Frame} {meth : Method} {c : Code} {b : Nat} (hx : p.tables.exec = Jvm.exec) (hb : c.code = code) (hr : meth.sig.returnType = ret) (hlocks : meth.locks = false) {pc : Nat} {H : Heap} {ls : Array Slot} (hdg : decode code pc = .ok (.ireturn, 1)) : W p l e room_1 s m #[Value.ref b] below meth c H [] 600002 7302232 (lw_Z below #[Value.ref b] s) (F0 m pc ls [.int 1]) := by
  intro T hT X
  obtain ⟨fs, hret, hrun, hended, hW, hframe⟩ := X.leave (v := some (.int 1)) (hlocks := hlocks) (fun h => by rw [hr] at h; cases h)
  have hmeth' : T.vm.method? m = some meth := X.method'
  refine ⟨T.setFrames fs, ?_, .returned (some (.int 1)), hrun, hended, rfl, ⟨_, rfl⟩, hW, hframe⟩
  jvm_step X.here [X.here.top, hx, hb, hdg, hmeth', hr, ret, narrow_b1]
  (try refine ⟨rfl, ?_⟩); (try refine ⟨rfl, ?_⟩)
  first | (intro acts; rw [hret _ acts rfl rfl rfl]) | rw [hret _ _ rfl rfl rfl]
  exact Steps.refl _
/-- what holds at the law's entry: the machine, the code, the tables' words (any of lw_tbl by 'hts w (by decide +kernel)'), the script of L ints xs at the cell b, what the Statement gives of the start (any of its parts by flat_of_before) -/
def lw_At (p : Program) (s : State) (m : MethodId) (meth : Method) (c : Code) (b L : Nat) (xs : Nat → Int32) : Prop :=
  p.tables.exec = Jvm.exec ∧ c.code = code ∧ meth.sig.returnType = ret ∧ c.maxLocals = 9 ∧ s.vm.findClass R_law = some m.cls ∧ (∀ w ∈ lw_tbl, w.before #[Value.ref b] s = true) ∧ va_X b L xs s s.heap ∧ b < s.heap.size ∧ meth.locks = false ∧ (Jvm.Cond.and given_1 narrow_1).before #[Value.ref b] s = true
/-! words of my own for the law's walk -/
theorem sj_lcmp {p : Program} {l : Launch} {e : Env} {R : Room} {s : State} {m : MethodId} {args : Array Value} {below : List Frame} {meth : Method} {c : Code} {H : Heap} {locs : List Loc} {cells slots : Nat} {Q : State → Prop} {cc : ByteArray} {pc : Nat} {ls : Array Slot} {rest : List Value} (hexec : p.tables.exec = Jvm.exec) (hb : c.code = cc) {x y : Int64} (hdg : decode cc pc = .ok (.lcmp, 1))
    (k : W p l e R s m args below meth c H locs cells slots Q (F0 m (pc + 1) ls (.int (if y < x then 1 else if x = y then 0 else -1) :: rest))) : W p l e R s m args below meth c H locs cells slots Q (F0 m pc ls (.long y :: .long x :: rest)) := by
  intro T hT X
  obtain ⟨t, a, b⟩ := k T hT X
  refine ⟨t, ?_, b⟩
  by_cases h1 : y < x
  · rw [if_pos h1] at a
    jvm_step X.here [X.here.top, hexec, hb, hdg, h1]
    exact a
  · rw [if_neg h1] at a
    by_cases h2 : x = y
    · rw [if_pos h2] at a
      subst h2
      jvm_step X.here [X.here.top, hexec, hb, hdg]
      exact a
    · rw [if_neg h2] at a
      jvm_step X.here [X.here.top, hexec, hb, hdg, h1, h2]
      exact a
theorem sj_f3_eq {a b c : Nat} : va_up (va_up (va_up (fun _ => none) 0 (some a)) 1 (some b)) 2 (some c) = sj_f3 a b c := by
  funext j
  unfold va_up sj_f3
  by_cases h0 : j = 0
  · subst h0; rfl
  · by_cases h1 : j = 1
    · subst h1; rfl
    · by_cases h2 : j = 2
      · subst h2; rfl
      · rw [if_neg h2, if_neg h1, if_neg h0, if_neg h0, if_neg h1, if_neg h2]
/-- the eight bytes that the law makes of two ints -/
def sj_w (x y : Int32) : Int64 := (x.toInt64 <<< ((32 : Int32).toInt64 &&& 63)) ||| (y.toInt64 &&& 4294967295)
theorem sj_m1 : ∀ i : Fin 32, (255#32).getLsbD i.1 = (255#64).getLsbD i.1 := by decide +kernel
theorem sj_m2 : ∀ i : Fin 32, 8 ≤ i.1 → (255#64).getLsbD i.1 = false := by decide +kernel
theorem sj_b8 (x : Int64) (k : Nat) (hk : k ≤ 56) (y : Int32) (h1 : ((y.toInt64.toUInt64 &&& Int64.toUInt64 63) % 64).toBitVec.toNat = k) (h2 : ((y.toInt64 &&& 63).toBitVec.smod 64).toNat = k) : sj_by x y = sj_bm x y := by
  refine Int32.toBitVec_inj.mp ?_
  have e1 : (sj_by x y).toBitVec = ((x.toBitVec >>> k).signExtend 32) &&& 255#32 := by rw [← h1]; rfl
  have e2 : (sj_bm x y).toBitVec = ((x.toBitVec.sshiftRight k) &&& 255#64).signExtend 32 := by rw [← h2]; rfl
  rw [e1, e2]
  refine BitVec.eq_of_getLsbD_eq (fun i hi => ?_)
  rw [BitVec.getLsbD_and, BitVec.getLsbD_signExtend, BitVec.getLsbD_signExtend, if_pos (show i < 64 by omega), if_pos (show i < 64 by omega), BitVec.getLsbD_and, BitVec.getLsbD_ushiftRight, BitVec.getLsbD_sshiftRight, sj_m1 ⟨i, hi⟩]
  by_cases h8 : i < 8
  · rw [if_pos (show k + i < 64 by omega), decide_eq_true hi, decide_eq_false (show ¬ 64 ≤ i by omega)]; simp
  · rw [sj_m2 ⟨i, hi⟩ (show 8 ≤ i by omega)]; simp
theorem sj_byE (x : Int64) : ∀ j : Nat, j < 8 → sj_by x (nI (8 * j)) = sj_bm x (nI (8 * j))
  | 0, _ => sj_b8 x 0 (by decide) _ (by decide +kernel) (by decide +kernel)
  | 1, _ => sj_b8 x 8 (by decide) _ (by decide +kernel) (by decide +kernel)
  | 2, _ => sj_b8 x 16 (by decide) _ (by decide +kernel) (by decide +kernel)
  | 3, _ => sj_b8 x 24 (by decide) _ (by decide +kernel) (by decide +kernel)
  | 4, _ => sj_b8 x 32 (by decide) _ (by decide +kernel) (by decide +kernel)
  | 5, _ => sj_b8 x 40 (by decide) _ (by decide +kernel) (by decide +kernel)
  | 6, _ => sj_b8 x 48 (by decide) _ (by decide +kernel) (by decide +kernel)
  | 7, _ => sj_b8 x 56 (by decide) _ (by decide +kernel) (by decide +kernel)
  | j + 8, h => absurd h (by omega)
theorem sj_PE (x : Int64) (n : Int32) : sj_P sj_by x n ↔ sj_P sj_bm x n :=
  ⟨fun ⟨a, b, h⟩ => ⟨a, b, fun j hj => by rw [← sj_byE x j (by omega)]; exact h j hj⟩, fun ⟨a, b, h⟩ => ⟨a, b, fun j hj => by rw [sj_byE x j (by omega)]; exact h j hj⟩⟩
theorem sj_putE {P P' : Prop} {r r' : Int32} (hPP : P ↔ P') (h : (r = 1 ∧ P) ∨ (r = 0 ∧ ¬ P)) (h' : (r' = 1 ∧ P') ∨ (r' = 0 ∧ ¬ P')) : r = r' := by
  rcases h with ⟨rfl, a⟩ | ⟨rfl, a⟩ <;> rcases h' with ⟨rfl, q⟩ | ⟨rfl, q⟩
  · rfl
  · exact absurd (hPP.mp a) q
  · exact absurd (hPP.mpr q) a
  · rfl
