/-! what a helper of the law has laid down -/
section XLV
variable {p : Program} {l : Launch} {e : Env} {R : Room} {s : State} {m : MethodId} {args : Array Value} {below : List Frame} {meth : Method} {c : Code} {H : Heap} {locs : List Loc} {cells slots : Nat} {Q : State → Prop}
variable {cc : ByteArray} {pc : Nat} {ls : Array Slot} {rest : List Value} {D : va_G} {A : Nat → Prop} {H0 : Heap}
variable {g : Nat → Nat} {ka : Nat → ClassId} {i : Nat → Nat → Int32} {r : Nat → Nat → Nat} {L : Nat → Nat → Int64} {d : Nat → Nat → UInt64}
theorem upl_35 (v : Int64) : upl L 35 (Int32.toNatClampNeg 0) v 35 0 = v := by
  unfold upl
  rw [va_up_self]
  rfl
theorem x_outV (hexec : p.tables.exec = Jvm.exec) (hb : c.code = cc) (hK : va_K D vwCl (hT ka) s) (hH : sj_H D A (hwc g ka i r L d) H) (hS : va_S A H0 H locs) {v : Int64} (hdg : decode cc pc = .ok (.lastore, 1))
    (kk : ∀ (H1 : Heap) (locs1 : List Loc) (L1 : Nat → Nat → Int64), L1 35 0 = v → sj_H D A (hwc g ka i r L1 d) H1 → va_S A H0 H1 locs1 → W p l e R s m args below meth c H1 locs1 cells slots Q (F0 m (pc + 1) ls rest)) : W p l e R s m args below meth c H locs cells slots Q (F0 m pc ls (.long v :: .int 0 :: .ref (g 35) :: rest)) :=
  h_last hexec hb hK hH hS (n := 35) (by decide) (rfl : kd 35 = 16) (s_vin (N := 1) (show (0 : Int32).toInt = 0 from rfl) (rfl : ln 35 = 1) (by omega) (by omega)) hdg (fun H1 l1 h1 h2 => kk H1 l1 _ (upl_35 v) h1 h2)
end XLV
theorem s_l64 {x y : Int32} (h : x.toInt = y.toInt) : x.toInt64 = y.toInt64 := by rw [Int32.toInt_inj.mp h]
/-- two equal longs compare as 0 -/
theorem s_lcE {x y : Int64} {z : Int32} (e : (if y < x then 1 else if x = y then 0 else -1 : Int32) = z) (h : x = y) : z.toInt = 0 := by
  subst h
  rw [if_neg Int64.lt_irrefl, if_pos rfl] at e
  rw [← e]; rfl

set_option maxHeartbeats 2000000 in
set_option maxRecDepth 100000 in
theorem hv_read (l : Launch) (D : va_G) (g : Nat → Nat) (ka : Nat → ClassId) (ad : Nat → Nat) (i : Nat → Nat → Int32) (r : Nat → Nat → Nat) (L : Nat → Nat → Int64) (d : Nat → Nat → UInt64)  (hO : OkI i) (hR : RS r) (sz : Nat) (hst : l.stackTraces = false) (hPC : PC i r) (hPO : PO i) (hPW : PW i) (hRO : (37 ≤ r 3 17 ∧ r 3 17 < 54) ∧ (54 ≤ r 3 18 ∧ r 3 18 < 96)) : Met l yL_read wsL_read ({ frames := 8, cells := 1, slots := 6, locals := 192 }) (va_Pc [.ref (g 0), .ref (g 35)] (sj_B D (hwc g ka i r L d) (hT ka) sz (gxh ad (va_A (hwc g ka i r L d) sz)))) (sj_Qi (S := (Nat → Nat → Int32) × (Nat → Nat → Nat) × (Nat → Nat → Int64)) D (fun rv u => (rv = 0 ∧ ∃ v9 : Int32, u.2.2 35 0 = v9.toInt64 ∧ (OkI u.1 ∧ (∀ a, ¬ (a = 1 ∨ a = 3 ∨ a = 4 ∨ a = 5 ∨ a = 6 ∨ a = 7 ∨ a = 13 ∨ (37 ≤ a ∧ a < 96) ∨ (96 ≤ a ∧ a < 216) ∨ (216 ≤ a ∧ a < 240)) → u.1 a = i a) ∧ RS u.2.1 ∧ (∀ a b, ¬ ((a = 3 ∧ (b = 17 ∨ b = 18)) ∨ (216 ≤ a ∧ a < 240)) → u.2.1 a b = r a b) ∧ ((i 23 8).toInt = 0 ∧ (u.1 1 1).toInt = 0) ∧ (rdC i r u.1 u.2.1) ∧ (PC u.1 u.2.1) ∧ (PO u.1) ∧ (PW u.1)) ∧ ((i 23 8).toInt = 0 ∧ v9.toInt = (u.1 3 4).toInt)) ∨ (rv = 1 ∧ (OkI u.1 ∧ (∀ a, ¬ (a = 1 ∨ a = 3 ∨ a = 4 ∨ a = 5 ∨ a = 6 ∨ a = 7 ∨ a = 13 ∨ (37 ≤ a ∧ a < 96) ∨ (96 ≤ a ∧ a < 216) ∨ (216 ≤ a ∧ a < 240)) → u.1 a = i a) ∧ RS u.2.1 ∧ (∀ a b, ¬ ((a = 3 ∧ (b = 17 ∨ b = 18)) ∨ (216 ≤ a ∧ a < 240)) → u.2.1 a b = r a b) ∧ ((i 23 8).toInt = 1 ∧ u.1 = i ∧ u.2.1 = r)) ∧ ((i 23 8).toInt = 1))) (fun u => hwc g ka u.1 u.2.1 u.2.2 d) (fun _ => []) (va_A (hwc g ka i r L d) sz)) 1 6 (va_A (hwc g ka i r L d) sz) := by
  refine x_hmet (Ex := gxh ad) (hh := [(0, 8, 11, 13)]) (cc := cL_read) (maxL := 3) (ret := (some .int)) (by decide) rfl (Nat.le_of_ble_eq_true rfl) ?_
  intro p e s m below meth c A ls hx hb hr hml hts hown hlocks htb hA hS hH hK hE hl
  have hown : s.vm.findClass RL = some m.cls := hown
  have hl : lv_has ls 3 [(0, .ref (g 0)), (1, .ref (g 35))] := hl
  have wd0 := hts (.classLink RL 13 "java/lang/IllegalStateException") (List.mem_cons_of_mem _ (List.mem_append_left _ (List.mem_append_left _ (List.mem_append_left _ (List.mem_append_left _ (List.mem_append_left _ (List.mem_append_left _ (List.mem_append_left _ (List.mem_append_left _ (List.mem_append_left _ (List.mem_append_left _ lm0)))))))))))
  refine lv_aload_n hx hb dL_read_0 rfl (lv_at hl 1 rfl) ?_
  refine lv_iconst (v := 0) hx hb dL_read_1 (by decide) ?_
  refine lv_aload_n hx hb dL_read_2 rfl (lv_at hl 0 rfl) ?_
  refine x_vcall0 (vx_runV (As := []) (rest := [.int 0, .ref (g 35)]) ⟨hx, hb, hml, hown, hts⟩ (kv_read l D g ka ad i r L d  hO hR s.heap.size hst hPC hPO hPW hRO) (cwV 0 hts gL_read_X11_read rfl rfl rfl (by decide +kernel) ⟨(Nat.le_of_ble_eq_true rfl), (Nat.le_of_ble_eq_true rfl)⟩) (x_preV (q := (RX11, TX11, 14)) hH hK (q_obj (n := 0) (by decide) rfl (by decide)) rfl gxb (gxw hE.1 hS (x_F hH hS hA))) rfl rfl hl.1 rfl (lv_room (Nat.le_of_ble_eq_true rfl)) dL_read_3 ⟨(Nat.le_of_ble_eq_true rfl), (Nat.le_of_ble_eq_true rfl)⟩) hH hS hA rfl rfl (fun E ce q9 u H locs px hH hS hce hcv hcl => ?_) (fun rv u H locs hw hH hS => ?_)
  · skip
    have hH : sj_H D A (hwc g ka u.1 u.2 L d) H := hH
    obtain ⟨hE0, x0_, x1_, x2_, x3_, x4_, xnew⟩ := px
    have hold : OkI u.1 ∧ (∀ a, ¬ (a = 1 ∨ a = 3 ∨ a = 4 ∨ a = 5 ∨ a = 6 ∨ a = 7 ∨ a = 13 ∨ (37 ≤ a ∧ a < 96) ∨ (96 ≤ a ∧ a < 216) ∨ (216 ≤ a ∧ a < 240)) → u.1 a = i a) ∧ RS u.2 ∧ (∀ a b, ¬ ((a = 3 ∧ (b = 17 ∨ b = 18)) ∨ (216 ≤ a ∧ a < 240)) → u.2 a b = r a b) ∧ ((i 23 8).toInt = 1 ∧ u.1 = i ∧ u.2 = r) := ⟨x0_, x1_, x2_, x3_, x4_⟩
    rcases hE0 with rfl
    · skip
      refine vx_catch hown [] ⟨0, 8, 11, 13⟩ [] (htb.trans rfl) (fun z h => absurd h List.not_mem_nil) rfl (by decide) wd0 (va_Nw.use rfl (gx_ise hE.1).2.2.1) hce hcv hcl ?_
      refine lv_astore_n (lv' := [(2, .ref q9), (0, .ref (g 0)), (1, .ref (g 35))]) hx hb dL_read_11 rfl hl (by decide) rfl (fun ls hl => ?_)
      refine lv_iconst (v := 1) hx hb dL_read_12 (by decide) ?_
      exact sj_zret hx hb hr hlocks rfl hS (u.1, u.2, L) (Or.inr ⟨rfl, hold, eX_ise' xnew⟩) hH (sj_Knil hK) (Nat.le_of_ble_eq_true rfl) (Nat.le_of_ble_eq_true rfl) dL_read_13
  · skip
    have hH : sj_H D A (hwc g ka u.1 u.2 L d) H := hH
    obtain ⟨n0_, n1_, n2_, n3_, n4_, n5_, n6_, n7_, n8_, w0_⟩ := hw
    have hold : OkI u.1 ∧ (∀ a, ¬ (a = 1 ∨ a = 3 ∨ a = 4 ∨ a = 5 ∨ a = 6 ∨ a = 7 ∨ a = 13 ∨ (37 ≤ a ∧ a < 96) ∨ (96 ≤ a ∧ a < 216) ∨ (216 ≤ a ∧ a < 240)) → u.1 a = i a) ∧ RS u.2 ∧ (∀ a b, ¬ ((a = 3 ∧ (b = 17 ∨ b = 18)) ∨ (216 ≤ a ∧ a < 240)) → u.2 a b = r a b) ∧ ((i 23 8).toInt = 0 ∧ (u.1 1 1).toInt = 0) ∧ (rdC i r u.1 u.2) ∧ (PC u.1 u.2) ∧ (PO u.1) ∧ (PW u.1) := ⟨n0_, n1_, n2_, n3_, n4_, n5_, n6_, n7_, n8_⟩
    refine lv_i2l hx hb dL_read_6 rfl ?_
    refine x_outV hx hb hK hH hS dL_read_7 (fun H locs f1 hf1 hH hS => ?_)
    refine lv_goto (tgt := 14) hx hb dL_read_8 (by decide) ?_
    refine lv_iconst (v := 0) hx hb dL_read_14 (by decide) ?_
    exact sj_zret hx hb hr hlocks rfl hS (u.1, u.2, f1) (Or.inl ⟨rfl, rv, hf1, hold, w0_⟩) hH (sj_Knil hK) (Nat.le_of_ble_eq_true rfl) (Nat.le_of_ble_eq_true rfl) dL_read_15
set_option maxHeartbeats 2000000 in
set_option maxRecDepth 100000 in
theorem hv_error (l : Launch) (D : va_G) (g : Nat → Nat) (ka : Nat → ClassId) (ad : Nat → Nat) (i : Nat → Nat → Int32) (r : Nat → Nat → Nat) (L : Nat → Nat → Int64) (d : Nat → Nat → UInt64) (x : Int32) (y : Int32) (hO : OkI i) (hR : RS r) (sz : Nat) (hst : l.stackTraces = false) : Met l yL_error wsL_error ({ frames := 7, cells := 1, slots := 6, locals := 112 }) (va_Pc [.ref (g 0), .int x, .int y, .ref (g 35)] (sj_B D (hwc g ka i r L d) (hT ka) sz (gxh ad (va_A (hwc g ka i r L d) sz)))) (sj_Qi (S := (Nat → Nat → Int64)) D (fun rv u => (rv = 0 ∧ ∃ v9 : Int32, u 35 0 = v9.toInt64 ∧ (True) ∧ ((0 ≤ x.toInt ∧ x.toInt < (i 3 4).toInt) ∧ ((y.toInt = 0 ∧ v9.toInt = (i 6 x.toInt.toNat).toInt) ∨ (y.toInt = 1 ∧ v9.toInt = (i 7 x.toInt.toNat).toInt)))) ∨ (rv = 1 ∧ (True) ∧ (x.toInt < 0 ∨ (i 3 4).toInt ≤ x.toInt ∨ y.toInt < 0 ∨ 1 < y.toInt))) (fun u => hwc g ka i r u d) (fun _ => []) (va_A (hwc g ka i r L d) sz)) 1 6 (va_A (hwc g ka i r L d) sz) := by
  refine x_hmet (Ex := gxh ad) (hh := [(0, 10, 13, 19)]) (cc := cL_error) (maxL := 5) (ret := (some .int)) (by decide) rfl (Nat.le_of_ble_eq_true rfl) ?_
  intro p e s m below meth c A ls hx hb hr hml hts hown hlocks htb hA hS hH hK hE hl
  have hown : s.vm.findClass RL = some m.cls := hown
  have hl : lv_has ls 5 [(0, .ref (g 0)), (1, .int x), (2, .int y), (3, .ref (g 35))] := hl
  have wd0 := hts (.classLink RL 19 "java/lang/IndexOutOfBoundsException") (List.mem_cons_of_mem _ (List.mem_append_left _ (List.mem_append_left _ (List.mem_append_left _ lm0))))
  refine lv_aload_n hx hb dL_error_0 rfl (lv_at hl 3 rfl) ?_
  refine lv_iconst (v := 0) hx hb dL_error_1 (by decide) ?_
  refine lv_aload_n hx hb dL_error_2 rfl (lv_at hl 0 rfl) ?_
  refine lv_iload_n hx hb dL_error_3 rfl (lv_at hl 1 rfl) ?_
  refine lv_iload_n hx hb dL_error_4 rfl (lv_at hl 2 rfl) ?_
  refine x_vcall0 (vx_runV (As := [.int x, .int y]) (rest := [.int 0, .ref (g 35)]) ⟨hx, hb, hml, hown, hts⟩ (kv_error l D g ka ad i r L d x y hO hR s.heap.size hst) (cwV 2 hts gL_error_X11_error rfl rfl rfl (by decide +kernel) ⟨(Nat.le_of_ble_eq_true rfl), (Nat.le_of_ble_eq_true rfl)⟩) (x_preV (q := (RX11, TX11, 14)) hH hK (q_obj (n := 0) (by decide) rfl (by decide)) rfl gxb (gxw hE.1 hS (x_F hH hS hA))) rfl rfl hl.1 rfl (lv_room (Nat.le_of_ble_eq_true rfl)) dL_error_5 ⟨(Nat.le_of_ble_eq_true rfl), (Nat.le_of_ble_eq_true rfl)⟩) hH hS hA rfl rfl (fun E ce q9 u H locs px hH hS hce hcv hcl => ?_) (fun rv u H locs hw hH hS => ?_)
  · skip
    have hH : sj_H D A (hwc g ka i r L d) H := hH
    obtain ⟨hE0, xnew⟩ := px
    have hold : True := trivial
    rcases hE0 with rfl
    · skip
      refine vx_catch hown [] ⟨0, 10, 13, 19⟩ [] (htb.trans rfl) (fun z h => absurd h List.not_mem_nil) rfl (by decide) wd0 (va_Nw.use rfl (gx_iob hE.1).2.2.1) hce hcv hcl ?_
      refine lv_astore (lv' := [(4, .ref q9), (0, .ref (g 0)), (1, .int x), (2, .int y), (3, .ref (g 35))]) hx hb dL_error_13 hl (by decide) rfl (fun ls hl => ?_)
      refine lv_iconst (v := 1) hx hb dL_error_15 (by decide) ?_
      exact sj_zret hx hb hr hlocks rfl hS L (Or.inr ⟨rfl, hold, eX_iob' xnew⟩) hH (sj_Knil hK) (Nat.le_of_ble_eq_true rfl) (Nat.le_of_ble_eq_true rfl) dL_error_16
  · skip
    have hH : sj_H D A (hwc g ka i r L d) H := hH
    have w0_ := hw
    have hold : True := trivial
    refine lv_i2l hx hb dL_error_8 rfl ?_
    refine x_outV hx hb hK hH hS dL_error_9 (fun H locs f1 hf1 hH hS => ?_)
    refine lv_goto (tgt := 17) hx hb dL_error_10 (by decide) ?_
    refine lv_iconst (v := 0) hx hb dL_error_17 (by decide) ?_
    exact sj_zret hx hb hr hlocks rfl hS f1 (Or.inl ⟨rfl, rv, hf1, hold, w0_⟩) hH (sj_Knil hK) (Nat.le_of_ble_eq_true rfl) (Nat.le_of_ble_eq_true rfl) dL_error_18
set_option maxHeartbeats 2000000 in
set_option maxRecDepth 100000 in
theorem hv_hook (l : Launch) (D : va_G) (g : Nat → Nat) (ka : Nat → ClassId) (ad : Nat → Nat) (i : Nat → Nat → Int32) (r : Nat → Nat → Nat) (L : Nat → Nat → Int64) (d : Nat → Nat → UInt64) (x : Int32) (y : Int32) (hO : OkI i) (hR : RS r) (sz : Nat) (hst : l.stackTraces = false) (hPK : PK i) (hx0 : 0 ≤ x.toInt) (hx1 : x.toInt ≤ 1) : Met l yL_hook wsL_hook ({ frames := 126, cells := 1, slots := 6, locals := 4970 }) (va_Pc [.ref (g 0), .int x, .int y, .ref (g 35)] (sj_B D (hwc g ka i r L d) (hT ka) sz (gxh ad (va_A (hwc g ka i r L d) sz)))) (sj_Qi (S := (Nat → Nat → Int32) × (Nat → Nat → Int64)) D (fun rv u => (rv = 0 ∧ ∃ v9 : Int32, u.2 35 0 = v9.toInt64 ∧ (OkI u.1 ∧ (∀ a, ¬ (a = 0 ∨ a = 1 ∨ a = 33 ∨ a = 34 ∨ (357 ≤ a ∧ a < 375)) → u.1 a = i a) ∧ ((i 23 8).toInt = 0 ∧ (u.1 1 1).toInt = 0) ∧ (hkC i u.1 x.toInt y.toInt) ∧ (PK u.1) ∧ (((u.1 0 7).toInt = (i 0 7).toInt))) ∧ ((i 23 8).toInt = 0 ∧ (cTk i ∧ (0 ≤ y.toInt ∧ y.toInt < 8) ∧ (i 0 11).toInt < 8) ∧ v9.toInt = (i 0 11).toInt)) ∨ (rv = 1 ∧ (OkI u.1 ∧ (∀ a, ¬ (a = 0 ∨ a = 1 ∨ a = 33 ∨ a = 34 ∨ (357 ≤ a ∧ a < 375)) → u.1 a = i a) ∧ (((i 23 8).toInt = 1 ∧ u.1 = i) ∨ ((i 23 8).toInt = 0 ∧ (u.1 1 1).toInt = 0 ∧ hkC i u.1 x.toInt y.toInt)) ∧ (PK u.1) ∧ (((u.1 0 7).toInt = (i 0 7).toInt))) ∧ ((i 23 8).toInt = 1)) ∨ (rv = 2 ∧ (OkI u.1 ∧ (∀ a, ¬ (a = 0 ∨ a = 1 ∨ a = 33 ∨ a = 34 ∨ (357 ≤ a ∧ a < 375)) → u.1 a = i a) ∧ (((i 23 8).toInt = 1 ∧ u.1 = i) ∨ ((i 23 8).toInt = 0 ∧ (u.1 1 1).toInt = 0 ∧ hkC i u.1 x.toInt y.toInt)) ∧ (PK u.1) ∧ (((u.1 0 7).toInt = (i 0 7).toInt))) ∧ ((i 23 8).toInt = 0 ∧ ¬ (cTk i ∧ (0 ≤ y.toInt ∧ y.toInt < 8)))) ∨ (rv = 3 ∧ (OkI u.1 ∧ (∀ a, ¬ (a = 0 ∨ a = 1 ∨ a = 33 ∨ a = 34 ∨ (357 ≤ a ∧ a < 375)) → u.1 a = i a) ∧ (((i 23 8).toInt = 1 ∧ u.1 = i) ∨ ((i 23 8).toInt = 0 ∧ (u.1 1 1).toInt = 0 ∧ hkC i u.1 x.toInt y.toInt)) ∧ (PK u.1) ∧ (((u.1 0 7).toInt = (i 0 7).toInt))) ∧ ((i 23 8).toInt = 0 ∧ (cTk i ∧ (0 ≤ y.toInt ∧ y.toInt < 8)) ∧ (i 0 11).toInt = 8))) (fun u => hwc g ka u.1 r u.2 d) (fun _ => []) (va_A (hwc g ka i r L d) sz)) 1 6 (va_A (hwc g ka i r L d) sz) := by
  refine x_hmet (Ex := gxh ad) (hh := [(0, 10, 13, 13), (0, 10, 17, 25), (0, 10, 21, 27)]) (cc := cL_hook) (maxL := 5) (ret := (some .int)) (by decide) rfl (Nat.le_of_ble_eq_true rfl) ?_
  intro p e s m below meth c A ls hx hb hr hml hts hown hlocks htb hA hS hH hK hE hl
  have hown : s.vm.findClass RL = some m.cls := hown
  have hl : lv_has ls 5 [(0, .ref (g 0)), (1, .int x), (2, .int y), (3, .ref (g 35))] := hl
  have wd0 := hts (.classLink RL 13 "java/lang/IllegalStateException") (List.mem_cons_of_mem _ (List.mem_append_left _ (List.mem_append_left _ (List.mem_append_left _ (List.mem_append_left _ (List.mem_append_left _ (List.mem_append_left _ (List.mem_append_left _ (List.mem_append_left _ lm0)))))))))
  have wd1 := hts (.classLink RL 25 "java/lang/IllegalArgumentException") (List.mem_cons_of_mem _ (List.mem_append_left _ (List.mem_append_left _ (List.mem_append_left _ (List.mem_append_left _ (List.mem_append_left _ (List.mem_append_left _ (List.mem_append_left _ (List.mem_append_left _ lm1)))))))))
  have wd2 := hts (.classLink RL 27 "java/lang/UnsupportedOperationException") (List.mem_cons_of_mem _ (List.mem_append_left _ (List.mem_append_left _ (List.mem_append_left _ (List.mem_append_left _ (List.mem_append_left _ (List.mem_append_left _ (List.mem_append_left _ (List.mem_append_left _ lm2)))))))))
  refine lv_aload_n hx hb dL_hook_0 rfl (lv_at hl 3 rfl) ?_
  refine lv_iconst (v := 0) hx hb dL_hook_1 (by decide) ?_
  refine lv_aload_n hx hb dL_hook_2 rfl (lv_at hl 0 rfl) ?_
  refine lv_iload_n hx hb dL_hook_3 rfl (lv_at hl 1 rfl) ?_
  refine lv_iload_n hx hb dL_hook_4 rfl (lv_at hl 2 rfl) ?_
  refine x_vcall0 (vx_runV (As := [.int x, .int y]) (rest := [.int 0, .ref (g 35)]) ⟨hx, hb, hml, hown, hts⟩ (kv_hook l D g ka ad i r L d x y hO hR s.heap.size hst hPK hx0 hx1) (cwV 2 hts gL_hook_X11_hook rfl rfl rfl (by decide +kernel) ⟨(Nat.le_of_ble_eq_true rfl), (Nat.le_of_ble_eq_true rfl)⟩) (x_preV (q := (RX11, TX11, 14)) hH hK (q_obj (n := 0) (by decide) rfl (by decide)) rfl gxb (gxw hE.1 hS (x_F hH hS hA))) rfl rfl hl.1 rfl (lv_room (Nat.le_of_ble_eq_true rfl)) dL_hook_5 ⟨(Nat.le_of_ble_eq_true rfl), (Nat.le_of_ble_eq_true rfl)⟩) hH hS hA rfl rfl (fun E ce q9 u H locs px hH hS hce hcv hcl => ?_) (fun rv u H locs hw hH hS => ?_)
  · skip
    have hH : sj_H D A (hwc g ka u r L d) H := hH
    obtain ⟨hE0, x0_, x1_, x2_, x3_, x4_, xnew⟩ := px
    have hold : OkI u ∧ (∀ a, ¬ (a = 0 ∨ a = 1 ∨ a = 33 ∨ a = 34 ∨ (357 ≤ a ∧ a < 375)) → u a = i a) ∧ (((i 23 8).toInt = 1 ∧ u = i) ∨ ((i 23 8).toInt = 0 ∧ (u 1 1).toInt = 0 ∧ hkC i u x.toInt y.toInt)) ∧ (PK u) ∧ (((u 0 7).toInt = (i 0 7).toInt)) := ⟨x0_, x1_, x2_, x3_, x4_⟩
    rcases hE0 with rfl | rfl | rfl
    · skip
      refine vx_catch hown [] ⟨0, 10, 13, 13⟩ [⟨0, 10, 17, 25⟩, ⟨0, 10, 21, 27⟩] (htb.trans rfl) (fun z h => absurd h List.not_mem_nil) rfl (by decide) wd0 (va_Nw.use rfl (gx_ise hE.1).2.2.1) hce hcv hcl ?_
      refine lv_astore (lv' := [(4, .ref q9), (0, .ref (g 0)), (1, .int x), (2, .int y), (3, .ref (g 35))]) hx hb dL_hook_13 hl (by decide) rfl (fun ls hl => ?_)
      refine lv_iconst (v := 1) hx hb dL_hook_15 (by decide) ?_
      exact sj_zret hx hb hr hlocks rfl hS (u, L) (Or.inr (Or.inl ⟨rfl, hold, eX_ise' xnew⟩)) hH (sj_Knil hK) (Nat.le_of_ble_eq_true rfl) (Nat.le_of_ble_eq_true rfl) dL_hook_16
    · skip
      refine vx_catch hown [⟨0, 10, 13, 13⟩] ⟨0, 10, 17, 25⟩ [⟨0, 10, 21, 27⟩] (htb.trans rfl) (fun z h => Or.inr (by rcases List.mem_singleton.mp h with rfl; exact ⟨by decide, "java/lang/IllegalStateException", wd0, hE.2.1⟩)) rfl (by decide) wd1 (va_Nw.use rfl (gx_iae hE.1).2.2.1) hce hcv hcl ?_
      refine lv_astore (lv' := [(4, .ref q9), (0, .ref (g 0)), (1, .int x), (2, .int y), (3, .ref (g 35))]) hx hb dL_hook_17 hl (by decide) rfl (fun ls hl => ?_)
      refine lv_iconst (v := 2) hx hb dL_hook_19 (by decide) ?_
      exact sj_zret hx hb hr hlocks rfl hS (u, L) (Or.inr (Or.inr (Or.inl ⟨rfl, hold, eX_iae' xnew⟩))) hH (sj_Knil hK) (Nat.le_of_ble_eq_true rfl) (Nat.le_of_ble_eq_true rfl) dL_hook_20
    · skip
      refine vx_catch hown [⟨0, 10, 13, 13⟩, ⟨0, 10, 17, 25⟩] ⟨0, 10, 21, 27⟩ [] (htb.trans rfl) (fun z h => Or.inr (by
      rcases List.mem_cons.mp h with rfl | h
      · exact ⟨by decide, "java/lang/IllegalStateException", wd0, hE.2.2.1⟩
      · rcases List.mem_singleton.mp h with rfl; exact ⟨by decide, "java/lang/IllegalArgumentException", wd1, hE.2.2.2.1⟩)) rfl (by decide) wd2 (va_Nw.use rfl (gx_uoe hE.1).2.2.1) hce hcv hcl ?_
      refine lv_astore (lv' := [(4, .ref q9), (0, .ref (g 0)), (1, .int x), (2, .int y), (3, .ref (g 35))]) hx hb dL_hook_21 hl (by decide) rfl (fun ls hl => ?_)
      refine lv_iconst (v := 3) hx hb dL_hook_23 (by decide) ?_
      exact sj_zret hx hb hr hlocks rfl hS (u, L) (Or.inr (Or.inr (Or.inr ⟨rfl, hold, eX_uoe' xnew⟩))) hH (sj_Knil hK) (Nat.le_of_ble_eq_true rfl) (Nat.le_of_ble_eq_true rfl) dL_hook_24
  · skip
    have hH : sj_H D A (hwc g ka u r L d) H := hH
    obtain ⟨n0_, n1_, n2_, n3_, n4_, n5_, w0_⟩ := hw
    have hold : OkI u ∧ (∀ a, ¬ (a = 0 ∨ a = 1 ∨ a = 33 ∨ a = 34 ∨ (357 ≤ a ∧ a < 375)) → u a = i a) ∧ ((i 23 8).toInt = 0 ∧ (u 1 1).toInt = 0) ∧ (hkC i u x.toInt y.toInt) ∧ (PK u) ∧ (((u 0 7).toInt = (i 0 7).toInt)) := ⟨n0_, n1_, n2_, n3_, n4_, n5_⟩
    refine lv_i2l hx hb dL_hook_8 rfl ?_
    refine x_outV hx hb hK hH hS dL_hook_9 (fun H locs f1 hf1 hH hS => ?_)
    refine lv_goto (tgt := 25) hx hb dL_hook_10 (by decide) ?_
    refine lv_iconst (v := 0) hx hb dL_hook_25 (by decide) ?_
    exact sj_zret hx hb hr hlocks rfl hS (u, f1) (Or.inl ⟨rfl, rv, hf1, hold, w0_⟩) hH (sj_Knil hK) (Nat.le_of_ble_eq_true rfl) (Nat.le_of_ble_eq_true rfl) dL_hook_26
set_option maxHeartbeats 2000000 in
set_option maxRecDepth 100000 in
theorem hv_filter (l : Launch) (D : va_G) (g : Nat → Nat) (ka : Nat → ClassId) (ad : Nat → Nat) (i : Nat → Nat → Int32) (r : Nat → Nat → Nat) (L : Nat → Nat → Int64) (d : Nat → Nat → UInt64) (a9 : Nat) (b9 : Nat) (hO : OkI i) (hR : RS r) (sz : Nat) (hst : l.stackTraces = false) (hPC : PC i r) (ha9 : 9 ≤ a9 ∧ a9 < 11) (hb9 : 9 ≤ b9 ∧ b9 < 11) (hab : a9 ≠ b9) (hr12 : r 0 12 = 357 + 2 * a9) (hr13 : r 0 13 = 357 + 2 * b9) (hTO : tgO i a9) : Met l yL_filter wsL_filter ({ frames := 126, cells := 1, slots := 6, locals := 4971 }) (va_Pc [.ref (g 0), .ref (g 35)] (sj_B D (hwc g ka i r L d) (hT ka) sz (gxh ad (va_A (hwc g ka i r L d) sz)))) (sj_Qi (S := (Nat → Nat → Int32) × (Nat → Nat → Nat) × (Nat → Nat → Int64)) D (fun rv u => (rv = 0 ∧ ∃ v9 : Int32, u.2.2 35 0 = v9.toInt64 ∧ (OkI u.1 ∧ (∀ a, ¬ (a = 1 ∨ (375 ≤ a ∧ a < 379)) → u.1 a = i a) ∧ RS u.2.1 ∧ (∀ a b, ¬ (a = 0 ∧ (b = 12 ∨ b = 13)) → u.2.1 a b = r a b) ∧ ((i 23 8).toInt = 0 ∧ (u.1 1 1).toInt = 0) ∧ (ftC i u.1 r u.2.1 a9 b9)) ∧ ((i 23 8).toInt = 0 ∧ cTk i ∧ v9.toInt = (cnl (fun c9 => tgH u.1 b9 (ctag i c9)) (i 13 4).toInt.toNat : Int))) ∨ (rv = 1 ∧ (OkI u.1 ∧ (∀ a, ¬ (a = 1 ∨ (375 ≤ a ∧ a < 379)) → u.1 a = i a) ∧ RS u.2.1 ∧ (∀ a b, ¬ (a = 0 ∧ (b = 12 ∨ b = 13)) → u.2.1 a b = r a b) ∧ (((i 23 8).toInt = 1 ∧ u.1 = i ∧ u.2.1 = r) ∨ ((i 23 8).toInt = 0 ∧ (u.1 1 1).toInt = 0 ∧ ftC i u.1 r u.2.1 a9 b9))) ∧ ((i 23 8).toInt = 1)) ∨ (rv = 2 ∧ (OkI u.1 ∧ (∀ a, ¬ (a = 1 ∨ (375 ≤ a ∧ a < 379)) → u.1 a = i a) ∧ RS u.2.1 ∧ (∀ a b, ¬ (a = 0 ∧ (b = 12 ∨ b = 13)) → u.2.1 a b = r a b) ∧ (((i 23 8).toInt = 1 ∧ u.1 = i ∧ u.2.1 = r) ∨ ((i 23 8).toInt = 0 ∧ (u.1 1 1).toInt = 0 ∧ ftC i u.1 r u.2.1 a9 b9))) ∧ ((i 23 8).toInt = 0 ∧ ¬ cTk i))) (fun u => hwc g ka u.1 u.2.1 u.2.2 d) (fun _ => []) (va_A (hwc g ka i r L d) sz)) 1 6 (va_A (hwc g ka i r L d) sz) := by
  refine x_hmet (Ex := gxh ad) (hh := [(0, 8, 11, 13), (0, 8, 14, 25)]) (cc := cL_filter) (maxL := 3) (ret := (some .int)) (by decide) rfl (Nat.le_of_ble_eq_true rfl) ?_
  intro p e s m below meth c A ls hx hb hr hml hts hown hlocks htb hA hS hH hK hE hl
  have hown : s.vm.findClass RL = some m.cls := hown
  have hl : lv_has ls 3 [(0, .ref (g 0)), (1, .ref (g 35))] := hl
  have wd0 := hts (.classLink RL 13 "java/lang/IllegalStateException") (List.mem_cons_of_mem _ (List.mem_append_left _ (List.mem_append_left _ (List.mem_append_left _ (List.mem_append_left _ (List.mem_append_left _ (List.mem_append_left _ (List.mem_append_left _ (List.mem_append_left _ (List.mem_append_left _ lm0))))))))))
  have wd1 := hts (.classLink RL 25 "java/lang/IllegalArgumentException") (List.mem_cons_of_mem _ (List.mem_append_left _ (List.mem_append_left _ (List.mem_append_left _ (List.mem_append_left _ (List.mem_append_left _ (List.mem_append_left _ (List.mem_append_left _ (List.mem_append_left _ (List.mem_append_left _ lm1))))))))))
  refine lv_aload_n hx hb dL_filter_0 rfl (lv_at hl 1 rfl) ?_
  refine lv_iconst (v := 0) hx hb dL_filter_1 (by decide) ?_
  refine lv_aload_n hx hb dL_filter_2 rfl (lv_at hl 0 rfl) ?_
  refine x_vcall0 (vx_runV (As := []) (rest := [.int 0, .ref (g 35)]) ⟨hx, hb, hml, hown, hts⟩ (kv_filter l D g ka ad i r L d a9 b9 hO hR s.heap.size hst hPC ha9 hb9 hab hr12 hr13 hTO) (cwV 0 hts gL_filter_X11_filter rfl rfl rfl (by decide +kernel) ⟨(Nat.le_of_ble_eq_true rfl), (Nat.le_of_ble_eq_true rfl)⟩) (x_preV (q := (RX11, TX11, 14)) hH hK (q_obj (n := 0) (by decide) rfl (by decide)) rfl gxb (gxw hE.1 hS (x_F hH hS hA))) rfl rfl hl.1 rfl (lv_room (Nat.le_of_ble_eq_true rfl)) dL_filter_3 ⟨(Nat.le_of_ble_eq_true rfl), (Nat.le_of_ble_eq_true rfl)⟩) hH hS hA rfl rfl (fun E ce q9 u H locs px hH hS hce hcv hcl => ?_) (fun rv u H locs hw hH hS => ?_)
  · skip
    have hH : sj_H D A (hwc g ka u.1 u.2 L d) H := hH
    obtain ⟨hE0, x0_, x1_, x2_, x3_, x4_, xnew⟩ := px
    have hold : OkI u.1 ∧ (∀ a, ¬ (a = 1 ∨ (375 ≤ a ∧ a < 379)) → u.1 a = i a) ∧ RS u.2 ∧ (∀ a b, ¬ (a = 0 ∧ (b = 12 ∨ b = 13)) → u.2 a b = r a b) ∧ (((i 23 8).toInt = 1 ∧ u.1 = i ∧ u.2 = r) ∨ ((i 23 8).toInt = 0 ∧ (u.1 1 1).toInt = 0 ∧ ftC i u.1 r u.2 a9 b9)) := ⟨x0_, x1_, x2_, x3_, x4_⟩
    rcases hE0 with rfl | rfl
    · skip
      refine vx_catch hown [] ⟨0, 8, 11, 13⟩ [⟨0, 8, 14, 25⟩] (htb.trans rfl) (fun z h => absurd h List.not_mem_nil) rfl (by decide) wd0 (va_Nw.use rfl (gx_ise hE.1).2.2.1) hce hcv hcl ?_
      refine lv_astore_n (lv' := [(2, .ref q9), (0, .ref (g 0)), (1, .ref (g 35))]) hx hb dL_filter_11 rfl hl (by decide) rfl (fun ls hl => ?_)
      refine lv_iconst (v := 1) hx hb dL_filter_12 (by decide) ?_
      exact sj_zret hx hb hr hlocks rfl hS (u.1, u.2, L) (Or.inr (Or.inl ⟨rfl, hold, eX_ise' xnew⟩)) hH (sj_Knil hK) (Nat.le_of_ble_eq_true rfl) (Nat.le_of_ble_eq_true rfl) dL_filter_13
    · skip
      refine vx_catch hown [⟨0, 8, 11, 13⟩] ⟨0, 8, 14, 25⟩ [] (htb.trans rfl) (fun z h => Or.inr (by rcases List.mem_singleton.mp h with rfl; exact ⟨by decide, "java/lang/IllegalStateException", wd0, hE.2.1⟩)) rfl (by decide) wd1 (va_Nw.use rfl (gx_iae hE.1).2.2.1) hce hcv hcl ?_
      refine lv_astore_n (lv' := [(2, .ref q9), (0, .ref (g 0)), (1, .ref (g 35))]) hx hb dL_filter_14 rfl hl (by decide) rfl (fun ls hl => ?_)
      refine lv_iconst (v := 2) hx hb dL_filter_15 (by decide) ?_
      exact sj_zret hx hb hr hlocks rfl hS (u.1, u.2, L) (Or.inr (Or.inr ⟨rfl, hold, eX_iae' xnew⟩)) hH (sj_Knil hK) (Nat.le_of_ble_eq_true rfl) (Nat.le_of_ble_eq_true rfl) dL_filter_16
  · skip
    have hH : sj_H D A (hwc g ka u.1 u.2 L d) H := hH
    obtain ⟨n0_, n1_, n2_, n3_, n4_, n5_, w0_⟩ := hw
    have hold : OkI u.1 ∧ (∀ a, ¬ (a = 1 ∨ (375 ≤ a ∧ a < 379)) → u.1 a = i a) ∧ RS u.2 ∧ (∀ a b, ¬ (a = 0 ∧ (b = 12 ∨ b = 13)) → u.2 a b = r a b) ∧ ((i 23 8).toInt = 0 ∧ (u.1 1 1).toInt = 0) ∧ (ftC i u.1 r u.2 a9 b9) := ⟨n0_, n1_, n2_, n3_, n4_, n5_⟩
    refine lv_i2l hx hb dL_filter_6 rfl ?_
    refine x_outV hx hb hK hH hS dL_filter_7 (fun H locs f1 hf1 hH hS => ?_)
    refine lv_goto (tgt := 17) hx hb dL_filter_8 (by decide) ?_
    refine lv_iconst (v := 0) hx hb dL_filter_17 (by decide) ?_
    exact sj_zret hx hb hr hlocks rfl hS (u.1, u.2, f1) (Or.inl ⟨rfl, rv, hf1, hold, w0_⟩) hH (sj_Knil hK) (Nat.le_of_ble_eq_true rfl) (Nat.le_of_ble_eq_true rfl) dL_filter_18
set_option maxHeartbeats 2000000 in
set_option maxRecDepth 100000 in
theorem hv_start (l : Launch) (D : va_G) (g : Nat → Nat) (ka : Nat → ClassId) (ad : Nat → Nat) (i : Nat → Nat → Int32) (r : Nat → Nat → Nat) (L : Nat → Nat → Int64) (d : Nat → Nat → UInt64) (a9 : Nat) (b9 : Nat) (x : Int32) (hO : OkI i) (hR : RS r) (sz : Nat) (hst : l.stackTraces = false) (hPC : PC i r) (ha9 : 9 ≤ a9 ∧ a9 < 11) (hb9 : 9 ≤ b9 ∧ b9 < 11) (hab : a9 ≠ b9) (hr12 : r 0 12 = 357 + 2 * a9) (hr13 : r 0 13 = 357 + 2 * b9) (hTO : tgO i a9) (hRI : RI i r d) (hev : (i 23 10).toInt ≤ 1900000000) : Met l yL_start wsL_start ({ frames := 125, cells := 1, slots := 6, locals := 4948 }) (va_Pc [.ref (g 0), .int x, .ref (g 35)] (sj_B D (hwc g ka i r L d) (hT ka) sz (gxh ad (va_A (hwc g ka i r L d) sz)))) (sj_Qi (S := (Nat → Nat → Int32) × (Nat → Nat → Int64)) D (fun rv u => (rv = 0 ∧ ∃ v9 : Int32, u.2 35 0 = v9.toInt64 ∧ (OkI u.1 ∧ (∀ a, ¬ (a = 23 ∨ (25 ≤ a ∧ a < 28) ∨ a = 28 ∨ a = 29 ∨ (216 ≤ a ∧ a < 240) ∨ (375 ≤ a ∧ a < 379)) → u.1 a = i a) ∧ (RI u.1 r d) ∧ ((i 23 8).toInt = 0 ∧ (1 ≤ x.toInt ∧ x.toInt ≤ 3) ∧ rest u.1 r = ksum i r a9 (i 13 4).toInt.toNat ∧ ((0 < ksum i r a9 (i 13 4).toInt.toNat ∧ (u.1 23 8).toInt = 1) ∨ (ksum i r a9 (i 13 4).toInt.toNat ≤ 0 ∧ (u.1 23 8).toInt = 0))) ∧ (((u.1 23 10).toInt ≤ (i 23 10).toInt + 2)) ∧ (SC i u.1)) ∧ ((i 23 8).toInt = 0 ∧ (1 ≤ x.toInt ∧ x.toInt ≤ 3) ∧ v9.toInt = (cnl (fun c9 => tgH i a9 (ctag i c9)) (i 13 4).toInt.toNat : Int) ∧ (u.1 23 10).toInt + (u.1 23 8).toInt = (i 23 10).toInt + 2)) ∨ (rv = 1 ∧ (OkI u.1 ∧ (∀ a, ¬ (a = 23 ∨ (25 ≤ a ∧ a < 28) ∨ a = 28 ∨ a = 29 ∨ (216 ≤ a ∧ a < 240) ∨ (375 ≤ a ∧ a < 379)) → u.1 a = i a) ∧ (u.1 = i ∧ ((i 23 8).toInt = 1 ∨ ((i 23 8).toInt = 0 ∧ (x.toInt < 1 ∨ 3 < x.toInt))))) ∧ ((i 23 8).toInt = 1)) ∨ (rv = 2 ∧ (OkI u.1 ∧ (∀ a, ¬ (a = 23 ∨ (25 ≤ a ∧ a < 28) ∨ a = 28 ∨ a = 29 ∨ (216 ≤ a ∧ a < 240) ∨ (375 ≤ a ∧ a < 379)) → u.1 a = i a) ∧ (u.1 = i ∧ ((i 23 8).toInt = 1 ∨ ((i 23 8).toInt = 0 ∧ (x.toInt < 1 ∨ 3 < x.toInt))))) ∧ ((i 23 8).toInt = 0 ∧ (x.toInt < 1 ∨ 3 < x.toInt)))) (fun u => hwc g ka u.1 r u.2 d) (fun _ => []) (va_A (hwc g ka i r L d) sz)) 1 6 (va_A (hwc g ka i r L d) sz) := by
  refine x_hmet (Ex := gxh ad) (hh := [(0, 9, 12, 13), (0, 9, 15, 25)]) (cc := cL_start) (maxL := 4) (ret := (some .int)) (by decide) rfl (Nat.le_of_ble_eq_true rfl) ?_
  intro p e s m below meth c A ls hx hb hr hml hts hown hlocks htb hA hS hH hK hE hl
  have hown : s.vm.findClass RL = some m.cls := hown
  have hl : lv_has ls 4 [(0, .ref (g 0)), (1, .int x), (2, .ref (g 35))] := hl
  have wd0 := hts (.classLink RL 13 "java/lang/IllegalStateException") (List.mem_cons_of_mem _ (List.mem_append_left _ (List.mem_append_left _ (List.mem_append_left _ (List.mem_append_left _ (List.mem_append_left _ (List.mem_append_left _ (List.mem_append_left _ (List.mem_append_left _ (List.mem_append_left _ lm0))))))))))
  have wd1 := hts (.classLink RL 25 "java/lang/IllegalArgumentException") (List.mem_cons_of_mem _ (List.mem_append_left _ (List.mem_append_left _ (List.mem_append_left _ (List.mem_append_left _ (List.mem_append_left _ (List.mem_append_left _ (List.mem_append_left _ (List.mem_append_left _ (List.mem_append_left _ lm1))))))))))
  refine lv_aload_n hx hb dL_start_0 rfl (lv_at hl 2 rfl) ?_
  refine lv_iconst (v := 0) hx hb dL_start_1 (by decide) ?_
  refine lv_aload_n hx hb dL_start_2 rfl (lv_at hl 0 rfl) ?_
  refine lv_iload_n hx hb dL_start_3 rfl (lv_at hl 1 rfl) ?_
  refine x_vcall0 (vx_runV (As := [.int x]) (rest := [.int 0, .ref (g 35)]) ⟨hx, hb, hml, hown, hts⟩ (kv_start l D g ka ad i r L d a9 b9 x hO hR s.heap.size hst hPC ha9 hb9 hab hr12 hr13 hTO hRI hev) (cwV 1 hts gL_start_X11_start rfl rfl rfl (by decide +kernel) ⟨(Nat.le_of_ble_eq_true rfl), (Nat.le_of_ble_eq_true rfl)⟩) (x_preV (q := (RX11, TX11, 14)) hH hK (q_obj (n := 0) (by decide) rfl (by decide)) rfl gxb (gxw hE.1 hS (x_F hH hS hA))) rfl rfl hl.1 rfl (lv_room (Nat.le_of_ble_eq_true rfl)) dL_start_4 ⟨(Nat.le_of_ble_eq_true rfl), (Nat.le_of_ble_eq_true rfl)⟩) hH hS hA rfl rfl (fun E ce q9 u H locs px hH hS hce hcv hcl => ?_) (fun rv u H locs hw hH hS => ?_)
  · skip
    have hH : sj_H D A (hwc g ka u r L d) H := hH
    obtain ⟨hE0, x0_, x1_, x2_, xnew⟩ := px
    have hold : OkI u ∧ (∀ a, ¬ (a = 23 ∨ (25 ≤ a ∧ a < 28) ∨ a = 28 ∨ a = 29 ∨ (216 ≤ a ∧ a < 240) ∨ (375 ≤ a ∧ a < 379)) → u a = i a) ∧ (u = i ∧ ((i 23 8).toInt = 1 ∨ ((i 23 8).toInt = 0 ∧ (x.toInt < 1 ∨ 3 < x.toInt)))) := ⟨x0_, x1_, x2_⟩
    rcases hE0 with rfl | rfl
    · skip
      refine vx_catch hown [] ⟨0, 9, 12, 13⟩ [⟨0, 9, 15, 25⟩] (htb.trans rfl) (fun z h => absurd h List.not_mem_nil) rfl (by decide) wd0 (va_Nw.use rfl (gx_ise hE.1).2.2.1) hce hcv hcl ?_
      refine lv_astore_n (lv' := [(3, .ref q9), (0, .ref (g 0)), (1, .int x), (2, .ref (g 35))]) hx hb dL_start_12 rfl hl (by decide) rfl (fun ls hl => ?_)
      refine lv_iconst (v := 1) hx hb dL_start_13 (by decide) ?_
      exact sj_zret hx hb hr hlocks rfl hS (u, L) (Or.inr (Or.inl ⟨rfl, hold, eX_ise' xnew⟩)) hH (sj_Knil hK) (Nat.le_of_ble_eq_true rfl) (Nat.le_of_ble_eq_true rfl) dL_start_14
    · skip
      refine vx_catch hown [⟨0, 9, 12, 13⟩] ⟨0, 9, 15, 25⟩ [] (htb.trans rfl) (fun z h => Or.inr (by rcases List.mem_singleton.mp h with rfl; exact ⟨by decide, "java/lang/IllegalStateException", wd0, hE.2.1⟩)) rfl (by decide) wd1 (va_Nw.use rfl (gx_iae hE.1).2.2.1) hce hcv hcl ?_
      refine lv_astore_n (lv' := [(3, .ref q9), (0, .ref (g 0)), (1, .int x), (2, .ref (g 35))]) hx hb dL_start_15 rfl hl (by decide) rfl (fun ls hl => ?_)
      refine lv_iconst (v := 2) hx hb dL_start_16 (by decide) ?_
      exact sj_zret hx hb hr hlocks rfl hS (u, L) (Or.inr (Or.inr ⟨rfl, hold, eX_iae' xnew⟩)) hH (sj_Knil hK) (Nat.le_of_ble_eq_true rfl) (Nat.le_of_ble_eq_true rfl) dL_start_17
  · skip
    have hH : sj_H D A (hwc g ka u r L d) H := hH
    obtain ⟨n0_, n1_, n2_, n3_, n4_, n5_, w0_⟩ := hw
    have hold : OkI u ∧ (∀ a, ¬ (a = 23 ∨ (25 ≤ a ∧ a < 28) ∨ a = 28 ∨ a = 29 ∨ (216 ≤ a ∧ a < 240) ∨ (375 ≤ a ∧ a < 379)) → u a = i a) ∧ (RI u r d) ∧ ((i 23 8).toInt = 0 ∧ (1 ≤ x.toInt ∧ x.toInt ≤ 3) ∧ rest u r = ksum i r a9 (i 13 4).toInt.toNat ∧ ((0 < ksum i r a9 (i 13 4).toInt.toNat ∧ (u 23 8).toInt = 1) ∨ (ksum i r a9 (i 13 4).toInt.toNat ≤ 0 ∧ (u 23 8).toInt = 0))) ∧ (((u 23 10).toInt ≤ (i 23 10).toInt + 2)) ∧ (SC i u) := ⟨n0_, n1_, n2_, n3_, n4_, n5_⟩
    refine lv_i2l hx hb dL_start_7 rfl ?_
    refine x_outV hx hb hK hH hS dL_start_8 (fun H locs f1 hf1 hH hS => ?_)
    refine lv_goto (tgt := 18) hx hb dL_start_9 (by decide) ?_
    refine lv_iconst (v := 0) hx hb dL_start_18 (by decide) ?_
    exact sj_zret hx hb hr hlocks rfl hS (u, f1) (Or.inl ⟨rfl, rv, hf1, hold, w0_⟩) hH (sj_Knil hK) (Nat.le_of_ble_eq_true rfl) (Nat.le_of_ble_eq_true rfl) dL_start_19
set_option maxHeartbeats 2000000 in
set_option maxRecDepth 100000 in
theorem hv_define (l : Launch) (D : va_G) (g : Nat → Nat) (ka : Nat → ClassId) (ad : Nat → Nat) (i : Nat → Nat → Int32) (r : Nat → Nat → Nat) (L : Nat → Nat → Int64) (d : Nat → Nat → UInt64) (x : Int32) (hO : OkI i) (hR : RS r) (sz : Nat) (hst : l.stackTraces = false) (hPD : PD i) (hPY : PY i) : Met l yL_define wsL_define ({ frames := 8, cells := 1, slots := 6, locals := 188 }) (va_Pc [.ref (g 0), .int x, .ref (g 35)] (sj_B D (hwc g ka i r L d) (hT ka) sz (gxh ad (va_A (hwc g ka i r L d) sz)))) (sj_Qi (S := (Nat → Nat → Int32) × (Nat → Nat → Int64)) D (fun rv u => (rv = 0 ∧ ∃ v9 : Int32, u.2 35 0 = v9.toInt64 ∧ (OkI u.1 ∧ (∀ a, ¬ (a = 0 ∨ a = 1 ∨ a = 31 ∨ (240 ≤ a ∧ a < 357)) → u.1 a = i a) ∧ (PD u.1) ∧ (PY u.1) ∧ ((i 23 8).toInt = 0 ∧ (u.1 1 1).toInt = 0) ∧ (((u.1 0 11).toInt = (i 0 11).toInt))) ∧ ((i 23 8).toInt = 0 ∧ (prOK (lnL (i 2) 0 (i 1 1).toInt) ∧ (0 ≤ x.toInt ∧ x.toInt < 8) ∧ (i 0 7).toInt < 12) ∧ v9.toInt = (i 0 7).toInt ∧ (u.1 0 7).toInt = (i 0 7).toInt + 1)) ∨ (rv = 1 ∧ (OkI u.1 ∧ (∀ a, ¬ (a = 0 ∨ a = 1 ∨ a = 31 ∨ (240 ≤ a ∧ a < 357)) → u.1 a = i a) ∧ (((u.1 0 11).toInt = (i 0 11).toInt)) ∧ (PD u.1) ∧ (PY u.1) ∧ (((i 23 8).toInt = 1 ∧ u.1 = i) ∨ ((i 23 8).toInt = 0 ∧ (u.1 1 1).toInt = 0))) ∧ ((i 23 8).toInt = 1)) ∨ (rv = 2 ∧ (OkI u.1 ∧ (∀ a, ¬ (a = 0 ∨ a = 1 ∨ a = 31 ∨ (240 ≤ a ∧ a < 357)) → u.1 a = i a) ∧ (((u.1 0 11).toInt = (i 0 11).toInt)) ∧ (PD u.1) ∧ (PY u.1) ∧ (((i 23 8).toInt = 1 ∧ u.1 = i) ∨ ((i 23 8).toInt = 0 ∧ (u.1 1 1).toInt = 0))) ∧ ((i 23 8).toInt = 0 ∧ ¬ (prOK (lnL (i 2) 0 (i 1 1).toInt) ∧ (0 ≤ x.toInt ∧ x.toInt < 8)) ∧ (u.1 0 7).toInt = (i 0 7).toInt)) ∨ (rv = 3 ∧ (OkI u.1 ∧ (∀ a, ¬ (a = 0 ∨ a = 1 ∨ a = 31 ∨ (240 ≤ a ∧ a < 357)) → u.1 a = i a) ∧ (((u.1 0 11).toInt = (i 0 11).toInt)) ∧ (PD u.1) ∧ (PY u.1) ∧ (((i 23 8).toInt = 1 ∧ u.1 = i) ∨ ((i 23 8).toInt = 0 ∧ (u.1 1 1).toInt = 0))) ∧ ((i 23 8).toInt = 0 ∧ (prOK (lnL (i 2) 0 (i 1 1).toInt) ∧ (0 ≤ x.toInt ∧ x.toInt < 8)) ∧ (i 0 7).toInt = 12 ∧ (u.1 0 7).toInt = (i 0 7).toInt))) (fun u => hwc g ka u.1 r u.2 d) (fun _ => []) (va_A (hwc g ka i r L d) sz)) 1 6 (va_A (hwc g ka i r L d) sz) := by
  refine x_hmet (Ex := gxh ad) (hh := [(0, 9, 12, 13), (0, 9, 15, 25), (0, 9, 18, 27)]) (cc := cL_define) (maxL := 4) (ret := (some .int)) (by decide) rfl (Nat.le_of_ble_eq_true rfl) ?_
  intro p e s m below meth c A ls hx hb hr hml hts hown hlocks htb hA hS hH hK hE hl
  have hown : s.vm.findClass RL = some m.cls := hown
  have hl : lv_has ls 4 [(0, .ref (g 0)), (1, .int x), (2, .ref (g 35))] := hl
  have wd0 := hts (.classLink RL 13 "java/lang/IllegalStateException") (List.mem_cons_of_mem _ (List.mem_append_left _ (List.mem_append_left _ (List.mem_append_left _ (List.mem_append_left _ (List.mem_append_left _ (List.mem_append_left _ (List.mem_append_left _ (List.mem_append_left _ lm0)))))))))
  have wd1 := hts (.classLink RL 25 "java/lang/IllegalArgumentException") (List.mem_cons_of_mem _ (List.mem_append_left _ (List.mem_append_left _ (List.mem_append_left _ (List.mem_append_left _ (List.mem_append_left _ (List.mem_append_left _ (List.mem_append_left _ (List.mem_append_left _ lm1)))))))))
  have wd2 := hts (.classLink RL 27 "java/lang/UnsupportedOperationException") (List.mem_cons_of_mem _ (List.mem_append_left _ (List.mem_append_left _ (List.mem_append_left _ (List.mem_append_left _ (List.mem_append_left _ (List.mem_append_left _ (List.mem_append_left _ (List.mem_append_left _ lm2)))))))))
  refine lv_aload_n hx hb dL_define_0 rfl (lv_at hl 2 rfl) ?_
  refine lv_iconst (v := 0) hx hb dL_define_1 (by decide) ?_
  refine lv_aload_n hx hb dL_define_2 rfl (lv_at hl 0 rfl) ?_
  refine lv_iload_n hx hb dL_define_3 rfl (lv_at hl 1 rfl) ?_
  refine x_vcall0 (vx_runV (As := [.int x]) (rest := [.int 0, .ref (g 35)]) ⟨hx, hb, hml, hown, hts⟩ (kv_define l D g ka ad i r L d x hO hR s.heap.size hst hPD hPY) (cwV 1 hts gL_define_X11_define rfl rfl rfl (by decide +kernel) ⟨(Nat.le_of_ble_eq_true rfl), (Nat.le_of_ble_eq_true rfl)⟩) (x_preV (q := (RX11, TX11, 14)) hH hK (q_obj (n := 0) (by decide) rfl (by decide)) rfl gxb (gxw hE.1 hS (x_F hH hS hA))) rfl rfl hl.1 rfl (lv_room (Nat.le_of_ble_eq_true rfl)) dL_define_4 ⟨(Nat.le_of_ble_eq_true rfl), (Nat.le_of_ble_eq_true rfl)⟩) hH hS hA rfl rfl (fun E ce q9 u H locs px hH hS hce hcv hcl => ?_) (fun rv u H locs hw hH hS => ?_)
  · skip
    have hH : sj_H D A (hwc g ka u r L d) H := hH
    obtain ⟨hE0, x0_, x1_, x2_, x3_, x4_, x5_, xnew⟩ := px
    have hold : OkI u ∧ (∀ a, ¬ (a = 0 ∨ a = 1 ∨ a = 31 ∨ (240 ≤ a ∧ a < 357)) → u a = i a) ∧ (((u 0 11).toInt = (i 0 11).toInt)) ∧ (PD u) ∧ (PY u) ∧ (((i 23 8).toInt = 1 ∧ u = i) ∨ ((i 23 8).toInt = 0 ∧ (u 1 1).toInt = 0)) := ⟨x0_, x1_, x2_, x3_, x4_, x5_⟩
    rcases hE0 with rfl | rfl | rfl
    · skip
      refine vx_catch hown [] ⟨0, 9, 12, 13⟩ [⟨0, 9, 15, 25⟩, ⟨0, 9, 18, 27⟩] (htb.trans rfl) (fun z h => absurd h List.not_mem_nil) rfl (by decide) wd0 (va_Nw.use rfl (gx_ise hE.1).2.2.1) hce hcv hcl ?_
      refine lv_astore_n (lv' := [(3, .ref q9), (0, .ref (g 0)), (1, .int x), (2, .ref (g 35))]) hx hb dL_define_12 rfl hl (by decide) rfl (fun ls hl => ?_)
      refine lv_iconst (v := 1) hx hb dL_define_13 (by decide) ?_
      exact sj_zret hx hb hr hlocks rfl hS (u, L) (Or.inr (Or.inl ⟨rfl, hold, eX_ise' xnew⟩)) hH (sj_Knil hK) (Nat.le_of_ble_eq_true rfl) (Nat.le_of_ble_eq_true rfl) dL_define_14
    · skip
      refine vx_catch hown [⟨0, 9, 12, 13⟩] ⟨0, 9, 15, 25⟩ [⟨0, 9, 18, 27⟩] (htb.trans rfl) (fun z h => Or.inr (by rcases List.mem_singleton.mp h with rfl; exact ⟨by decide, "java/lang/IllegalStateException", wd0, hE.2.1⟩)) rfl (by decide) wd1 (va_Nw.use rfl (gx_iae hE.1).2.2.1) hce hcv hcl ?_
      refine lv_astore_n (lv' := [(3, .ref q9), (0, .ref (g 0)), (1, .int x), (2, .ref (g 35))]) hx hb dL_define_15 rfl hl (by decide) rfl (fun ls hl => ?_)
      refine lv_iconst (v := 2) hx hb dL_define_16 (by decide) ?_
      exact sj_zret hx hb hr hlocks rfl hS (u, L) (Or.inr (Or.inr (Or.inl ⟨rfl, hold, eX_iae' xnew⟩))) hH (sj_Knil hK) (Nat.le_of_ble_eq_true rfl) (Nat.le_of_ble_eq_true rfl) dL_define_17
    · skip
      refine vx_catch hown [⟨0, 9, 12, 13⟩, ⟨0, 9, 15, 25⟩] ⟨0, 9, 18, 27⟩ [] (htb.trans rfl) (fun z h => Or.inr (by
      rcases List.mem_cons.mp h with rfl | h
      · exact ⟨by decide, "java/lang/IllegalStateException", wd0, hE.2.2.1⟩
      · rcases List.mem_singleton.mp h with rfl; exact ⟨by decide, "java/lang/IllegalArgumentException", wd1, hE.2.2.2.1⟩)) rfl (by decide) wd2 (va_Nw.use rfl (gx_uoe hE.1).2.2.1) hce hcv hcl ?_
      refine lv_astore_n (lv' := [(3, .ref q9), (0, .ref (g 0)), (1, .int x), (2, .ref (g 35))]) hx hb dL_define_18 rfl hl (by decide) rfl (fun ls hl => ?_)
      refine lv_iconst (v := 3) hx hb dL_define_19 (by decide) ?_
      exact sj_zret hx hb hr hlocks rfl hS (u, L) (Or.inr (Or.inr (Or.inr ⟨rfl, hold, eX_uoe' xnew⟩))) hH (sj_Knil hK) (Nat.le_of_ble_eq_true rfl) (Nat.le_of_ble_eq_true rfl) dL_define_20
  · skip
    have hH : sj_H D A (hwc g ka u r L d) H := hH
    obtain ⟨n0_, n1_, n2_, n3_, n4_, n5_, w0_⟩ := hw
    have hold : OkI u ∧ (∀ a, ¬ (a = 0 ∨ a = 1 ∨ a = 31 ∨ (240 ≤ a ∧ a < 357)) → u a = i a) ∧ (PD u) ∧ (PY u) ∧ ((i 23 8).toInt = 0 ∧ (u 1 1).toInt = 0) ∧ (((u 0 11).toInt = (i 0 11).toInt)) := ⟨n0_, n1_, n2_, n3_, n4_, n5_⟩
    refine lv_i2l hx hb dL_define_7 rfl ?_
    refine x_outV hx hb hK hH hS dL_define_8 (fun H locs f1 hf1 hH hS => ?_)
    refine lv_goto (tgt := 21) hx hb dL_define_9 (by decide) ?_
    refine lv_iconst (v := 0) hx hb dL_define_21 (by decide) ?_
    exact sj_zret hx hb hr hlocks rfl hS (u, f1) (Or.inl ⟨rfl, rv, hf1, hold, w0_⟩) hH (sj_Knil hK) (Nat.le_of_ble_eq_true rfl) (Nat.le_of_ble_eq_true rfl) dL_define_22
