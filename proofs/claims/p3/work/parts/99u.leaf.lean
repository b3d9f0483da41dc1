/-! families of objects that a loop makes -/
def fam (S : (Nat → Nat) → va_W) (a : Nat → Nat → Nat) : Nat → va_W
  | 0 => []
  | n + 1 => S (a n) ++ fam S a n
def famF (j0 : Nat) (a : Nat → Nat → Nat) (n : Nat) (F : Nat → Option Nat) : Prop := ∀ q : Nat, j0 ≤ q → q < j0 + n → F q = some (a (q - j0) 0)
theorem fam_c {S : (Nat → Nat) → va_W} {a b : Nat → Nat → Nat} : ∀ n : Nat, (∀ m : Nat, m < n → a m = b m) → fam S a n = fam S b n
  | 0, _ => rfl
  | n + 1, h => by
    show S (a n) ++ fam S a n = S (b n) ++ fam S b n
    rw [h n (by omega), fam_c n (fun m hm => h m (by omega))]
theorem fam_p {S : (Nat → Nat) → va_W} {a : Nat → Nat → Nat} {n n' : Nat} {aj : Nat → Nat} {c P P0 : va_W} (h : P = fam S a n ++ P0) (hn : n' = n + 1) (hc : c = S aj) : c ++ P = fam S (fun m => if m = n then aj else a m) n' ++ P0 := by
  subst hn; subst hc; subst h
  show S aj ++ (fam S a n ++ P0) = (S (if n = n then aj else a n) ++ fam S (fun m => if m = n then aj else a m) n) ++ P0
  rw [if_pos rfl, fam_c (a := fun m => if m = n then aj else a m) (b := a) n (fun m hm => if_neg (by omega)), List.append_assoc]
theorem famF_s {j0 n n' x q : Nat} {a : Nat → Nat → Nat} {F : Nat → Option Nat} {aj : Nat → Nat} (h : famF j0 a n F) (hx : x = j0 + n) (hn : n' = n + 1) (hq : aj 0 = q) : famF j0 (fun m => if m = n then aj else a m) n' (va_up F x (some q)) := by
  subst hn; subst hq; subst hx
  intro k h1 h2
  by_cases e : k = j0 + n
  · subst e
    rw [va_up_self, show j0 + n - j0 = n by omega]
    show some (aj 0) = some ((if n = n then aj else a n) 0)
    rw [if_pos rfl]
  · rw [va_up_ne _ _ e, h k h1 (by omega)]
    show some (a (k - j0) 0) = some ((if k - j0 = n then aj else a (k - j0)) 0)
    rw [if_neg (by omega)]
theorem T_uq.int {D : va_G} {cl : List vw_C} {T : List (ClassId × FieldType)} {s : State} (h : va_K D cl T s) {i j : Nat} {k1 k2 : ClassId} (h1 : T[i]? = some (k1, .int)) (h2 : T[j]? = some (k2, .int)) : k1 = k2 := by
  have a : s.vm.findClass ("[" ++ FieldType.int.toString) = some k1 := (h.2 i _ h1).2
  have b : s.vm.findClass ("[" ++ FieldType.int.toString) = some k2 := (h.2 j _ h2).2
  rw [a] at b; exact Option.some.inj b
theorem T_uq.char {D : va_G} {cl : List vw_C} {T : List (ClassId × FieldType)} {s : State} (h : va_K D cl T s) {i j : Nat} {k1 k2 : ClassId} (h1 : T[i]? = some (k1, .char)) (h2 : T[j]? = some (k2, .char)) : k1 = k2 := by
  have a : s.vm.findClass ("[" ++ FieldType.char.toString) = some k1 := (h.2 i _ h1).2
  have b : s.vm.findClass ("[" ++ FieldType.char.toString) = some k2 := (h.2 j _ h2).2
  rw [a] at b; exact Option.some.inj b
theorem T_uq.long {D : va_G} {cl : List vw_C} {T : List (ClassId × FieldType)} {s : State} (h : va_K D cl T s) {i j : Nat} {k1 k2 : ClassId} (h1 : T[i]? = some (k1, .long)) (h2 : T[j]? = some (k2, .long)) : k1 = k2 := by
  have a : s.vm.findClass ("[" ++ FieldType.long.toString) = some k1 := (h.2 i _ h1).2
  have b : s.vm.findClass ("[" ++ FieldType.long.toString) = some k2 := (h.2 j _ h2).2
  rw [a] at b; exact Option.some.inj b
theorem T_uq.boolean {D : va_G} {cl : List vw_C} {T : List (ClassId × FieldType)} {s : State} (h : va_K D cl T s) {i j : Nat} {k1 k2 : ClassId} (h1 : T[i]? = some (k1, .boolean)) (h2 : T[j]? = some (k2, .boolean)) : k1 = k2 := by
  have a : s.vm.findClass ("[" ++ FieldType.boolean.toString) = some k1 := (h.2 i _ h1).2
  have b : s.vm.findClass ("[" ++ FieldType.boolean.toString) = some k2 := (h.2 j _ h2).2
  rw [a] at b; exact Option.some.inj b
theorem T_uq.double {D : va_G} {cl : List vw_C} {T : List (ClassId × FieldType)} {s : State} (h : va_K D cl T s) {i j : Nat} {k1 k2 : ClassId} (h1 : T[i]? = some (k1, .double)) (h2 : T[j]? = some (k2, .double)) : k1 = k2 := by
  have a : s.vm.findClass ("[" ++ FieldType.double.toString) = some k1 := (h.2 i _ h1).2
  have b : s.vm.findClass ("[" ++ FieldType.double.toString) = some k2 := (h.2 j _ h2).2
  rw [a] at b; exact Option.some.inj b
def sh0 (a : Nat → Nat) : va_W := [((a 0), .inr (0, [.null, .null, .null, .int 0, .int 0]))]
def sh1 (k0 : ClassId) (a : Nat → Nat) : va_W := [((a 0), .inr (6, [.ref (a 1), .ref (a 2), .int 0, .int 0])), ((a 1), .inl (k0, 4, .inl (fun _ => 0))), ((a 2), .inl (k0, 4, .inl (fun _ => 0)))]
def sh2 (a : Nat → Nat) : va_W := [((a 0), .inr (4, [.int 0, .int 0, .int 0, .int 0, .int 0, .int 0, .int 0, .int 0, .int 0]))]
def sh3 (k0 : ClassId) (a : Nat → Nat) : va_W := [((a 0), .inr (9, [.ref (a 1), .int 0, .int 0, .int 0])), ((a 1), .inl (k0, 40, .inl (fun _ => 0)))]
def sh4 (k0 : ClassId) (k1 : ClassId) (k2 : ClassId) (a : Nat → Nat) : va_W := [((a 0), .inr (2, [.ref (a 1), .ref (a 2), .int 0, .ref (a 3), .ref (a 4), .int 0, .int 0, .ref (a 5), .ref (a 6), .ref (a 7), .ref (a 8)])), ((a 1), .inl (k0, 60, .inl (fun _ => 0))), ((a 2), .inl (k1, 62, .inl (fun _ => 0))), ((a 3), .inl (k0, 60, .inl (fun _ => 0))), ((a 4), .inl (k1, 61, .inl (fun _ => 0))), ((a 5), .inl (k2, 61, .inr (.inl (fun _ => 0)))), ((a 6), .inl (k1, 6, .inl (fun _ => 0))), ((a 7), .inl (k1, 6, .inl (fun _ => 0))), ((a 8), .inl (k0, 6, .inl (fun _ => 0)))]
theorem dX3_init_0 : decode cX3_init 0 = .ok (.aload_n 0, 1) := by decide +kernel
theorem dX3_init_1 : decode cX3_init 1 = .ok (.invokespecial 1, 3) := by decide +kernel
theorem dX3_init_4 : decode cX3_init 4 = .ok (.aload_n 0, 1) := by decide +kernel
theorem dX3_init_5 : decode cX3_init 5 = .ok (.iload_n 1, 1) := by decide +kernel
theorem dX3_init_6 : decode cX3_init 6 = .ok (.newarray .char, 2) := by decide +kernel
theorem dX3_init_8 : decode cX3_init 8 = .ok (.putfield 7, 3) := by decide +kernel
theorem dX3_init_11 : decode cX3_init 11 = .ok (.return_, 1) := by decide +kernel
theorem dX0_init_0 : decode cX0_init 0 = .ok (.aload_n 0, 1) := by decide +kernel
theorem dX0_init_1 : decode cX0_init 1 = .ok (.invokespecial 1, 3) := by decide +kernel
theorem dX0_init_4 : decode cX0_init 4 = .ok (.return_, 1) := by decide +kernel
theorem dX4_init_0 : decode cX4_init 0 = .ok (.aload_n 0, 1) := by decide +kernel
theorem dX4_init_1 : decode cX4_init 1 = .ok (.invokespecial 1, 3) := by decide +kernel
theorem dX4_init_4 : decode cX4_init 4 = .ok (.return_, 1) := by decide +kernel
theorem dX6_init_0 : decode cX6_init 0 = .ok (.aload_n 0, 1) := by decide +kernel
theorem dX6_init_1 : decode cX6_init 1 = .ok (.invokespecial 1, 3) := by decide +kernel
theorem dX6_init_4 : decode cX6_init 4 = .ok (.aload_n 0, 1) := by decide +kernel
theorem dX6_init_5 : decode cX6_init 5 = .ok (.iconst 4, 1) := by decide +kernel
theorem dX6_init_6 : decode cX6_init 6 = .ok (.newarray .int, 2) := by decide +kernel
theorem dX6_init_8 : decode cX6_init 8 = .ok (.putfield 9, 3) := by decide +kernel
theorem dX6_init_11 : decode cX6_init 11 = .ok (.aload_n 0, 1) := by decide +kernel
theorem dX6_init_12 : decode cX6_init 12 = .ok (.iconst 4, 1) := by decide +kernel
theorem dX6_init_13 : decode cX6_init 13 = .ok (.newarray .int, 2) := by decide +kernel
theorem dX6_init_15 : decode cX6_init 15 = .ok (.putfield 13, 3) := by decide +kernel
theorem dX6_init_18 : decode cX6_init 18 = .ok (.return_, 1) := by decide +kernel
theorem dX9_init_0 : decode cX9_init 0 = .ok (.aload_n 0, 1) := by decide +kernel
theorem dX9_init_1 : decode cX9_init 1 = .ok (.invokespecial 1, 3) := by decide +kernel
theorem dX9_init_4 : decode cX9_init 4 = .ok (.aload_n 0, 1) := by decide +kernel
theorem dX9_init_5 : decode cX9_init 5 = .ok (.bipush 40, 2) := by decide +kernel
theorem dX9_init_7 : decode cX9_init 7 = .ok (.newarray .char, 2) := by decide +kernel
theorem dX9_init_9 : decode cX9_init 9 = .ok (.putfield 9, 3) := by decide +kernel
theorem dX9_init_12 : decode cX9_init 12 = .ok (.return_, 1) := by decide +kernel
theorem dX10_init_0 : decode cX10_init 0 = .ok (.aload_n 0, 1) := by decide +kernel
theorem dX10_init_1 : decode cX10_init 1 = .ok (.invokespecial 3, 3) := by decide +kernel
theorem dX10_init_4 : decode cX10_init 4 = .ok (.aload_n 0, 1) := by decide +kernel
theorem dX10_init_5 : decode cX10_init 5 = .ok (.iload_n 1, 1) := by decide +kernel
theorem dX10_init_6 : decode cX10_init 6 = .ok (.putfield 9, 3) := by decide +kernel
theorem dX10_init_9 : decode cX10_init 9 = .ok (.aload_n 0, 1) := by decide +kernel
theorem dX10_init_10 : decode cX10_init 10 = .ok (.iconst (-1), 1) := by decide +kernel
theorem dX10_init_11 : decode cX10_init 11 = .ok (.putfield 15, 3) := by decide +kernel
theorem dX10_init_14 : decode cX10_init 14 = .ok (.return_, 1) := by decide +kernel
theorem dX2_init_0 : decode cX2_init 0 = .ok (.aload_n 0, 1) := by decide +kernel
theorem dX2_init_1 : decode cX2_init 1 = .ok (.invokespecial 3, 3) := by decide +kernel
theorem dX2_init_4 : decode cX2_init 4 = .ok (.aload_n 0, 1) := by decide +kernel
theorem dX2_init_5 : decode cX2_init 5 = .ok (.bipush 60, 2) := by decide +kernel
theorem dX2_init_7 : decode cX2_init 7 = .ok (.newarray .char, 2) := by decide +kernel
theorem dX2_init_9 : decode cX2_init 9 = .ok (.putfield 11, 3) := by decide +kernel
theorem dX2_init_12 : decode cX2_init 12 = .ok (.aload_n 0, 1) := by decide +kernel
theorem dX2_init_13 : decode cX2_init 13 = .ok (.bipush 62, 2) := by decide +kernel
theorem dX2_init_15 : decode cX2_init 15 = .ok (.newarray .int, 2) := by decide +kernel
theorem dX2_init_17 : decode cX2_init 17 = .ok (.putfield 15, 3) := by decide +kernel
theorem dX2_init_20 : decode cX2_init 20 = .ok (.aload_n 0, 1) := by decide +kernel
theorem dX2_init_21 : decode cX2_init 21 = .ok (.bipush 60, 2) := by decide +kernel
theorem dX2_init_23 : decode cX2_init 23 = .ok (.newarray .char, 2) := by decide +kernel
theorem dX2_init_25 : decode cX2_init 25 = .ok (.putfield 19, 3) := by decide +kernel
theorem dX2_init_28 : decode cX2_init 28 = .ok (.aload_n 0, 1) := by decide +kernel
theorem dX2_init_29 : decode cX2_init 29 = .ok (.bipush 61, 2) := by decide +kernel
theorem dX2_init_31 : decode cX2_init 31 = .ok (.newarray .int, 2) := by decide +kernel
theorem dX2_init_33 : decode cX2_init 33 = .ok (.putfield 22, 3) := by decide +kernel
theorem dX2_init_36 : decode cX2_init 36 = .ok (.aload_n 0, 1) := by decide +kernel
theorem dX2_init_37 : decode cX2_init 37 = .ok (.bipush 61, 2) := by decide +kernel
theorem dX2_init_39 : decode cX2_init 39 = .ok (.newarray .long, 2) := by decide +kernel
theorem dX2_init_41 : decode cX2_init 41 = .ok (.putfield 25, 3) := by decide +kernel
theorem dX2_init_44 : decode cX2_init 44 = .ok (.aload_n 0, 1) := by decide +kernel
theorem dX2_init_45 : decode cX2_init 45 = .ok (.bipush 6, 2) := by decide +kernel
theorem dX2_init_47 : decode cX2_init 47 = .ok (.newarray .int, 2) := by decide +kernel
theorem dX2_init_49 : decode cX2_init 49 = .ok (.putfield 29, 3) := by decide +kernel
theorem dX2_init_52 : decode cX2_init 52 = .ok (.aload_n 0, 1) := by decide +kernel
theorem dX2_init_53 : decode cX2_init 53 = .ok (.bipush 6, 2) := by decide +kernel
theorem dX2_init_55 : decode cX2_init 55 = .ok (.newarray .int, 2) := by decide +kernel
theorem dX2_init_57 : decode cX2_init 57 = .ok (.putfield 32, 3) := by decide +kernel
theorem dX2_init_60 : decode cX2_init 60 = .ok (.aload_n 0, 1) := by decide +kernel
theorem dX2_init_61 : decode cX2_init 61 = .ok (.bipush 6, 2) := by decide +kernel
theorem dX2_init_63 : decode cX2_init 63 = .ok (.newarray .char, 2) := by decide +kernel
theorem dX2_init_65 : decode cX2_init 65 = .ok (.putfield 35, 3) := by decide +kernel
theorem dX2_init_68 : decode cX2_init 68 = .ok (.return_, 1) := by decide +kernel
theorem dX8_init_0 : decode cX8_init 0 = .ok (.aload_n 0, 1) := by decide +kernel
theorem dX8_init_1 : decode cX8_init 1 = .ok (.invokespecial 3, 3) := by decide +kernel
theorem dX8_init_4 : decode cX8_init 4 = .ok (.aload_n 0, 1) := by decide +kernel
theorem dX8_init_5 : decode cX8_init 5 = .ok (.bipush 32, 2) := by decide +kernel
theorem dX8_init_7 : decode cX8_init 7 = .ok (.newarray .int, 2) := by decide +kernel
theorem dX8_init_9 : decode cX8_init 9 = .ok (.putfield 11, 3) := by decide +kernel
theorem dX8_init_12 : decode cX8_init 12 = .ok (.aload_n 0, 1) := by decide +kernel
theorem dX8_init_13 : decode cX8_init 13 = .ok (.bipush 32, 2) := by decide +kernel
theorem dX8_init_15 : decode cX8_init 15 = .ok (.newarray .int, 2) := by decide +kernel
theorem dX8_init_17 : decode cX8_init 17 = .ok (.putfield 15, 3) := by decide +kernel
theorem dX8_init_20 : decode cX8_init 20 = .ok (.aload_n 0, 1) := by decide +kernel
theorem dX8_init_21 : decode cX8_init 21 = .ok (.bipush 8, 2) := by decide +kernel
theorem dX8_init_23 : decode cX8_init 23 = .ok (.newarray .int, 2) := by decide +kernel
theorem dX8_init_25 : decode cX8_init 25 = .ok (.putfield 18, 3) := by decide +kernel
theorem dX8_init_28 : decode cX8_init 28 = .ok (.return_, 1) := by decide +kernel
set_option maxHeartbeats 4000000 in
set_option maxRecDepth 100000 in
/-- Letters(limit): an empty row over a new array -/
theorem c_X3_init (l : Launch) (D : va_G) (h0 : Nat) (x : Int32) (N : Nat) (sz : Nat) (hx0 : ¬ x < 0) (hN : x.toNatClampNeg = N) (hbN : N * 2 ≤ 536870912) : Met l yX3_init wsX3_init ({ frames := 1, cells := 1, slots := N, locals := 20 }) (va_Pc [.ref h0, .int x] (sj_B D [(h0, .inr (3, [.null, .int 0]))] [] sz sj_n)) (sj_Qv (S := Nat × ClassId) D (fun _ => True) (fun u => [(h0, .inr (3, [.ref u.1, .int 0])), (u.1, .inl (u.2, N, .inl (fun _ => 0)))]) (fun u => [(u.2, .char)]) (va_A [(h0, .inr (3, [.null, .int 0]))] sz)) 1 N (va_A [(h0, .inr (3, [.null, .int 0]))] sz) := by
  refine sj_met (cc := cX3_init) (maxL := 2) (ret := none) (by decide) rfl (Nat.le_of_ble_eq_true rfl) ?_
  intro p e s m below meth c A ls hx hb hr hml hts hown hlocks hnm hA hsz hS hH hK hE hl
  have hown : s.vm.findClass RX3 = some m.cls := hown
  have hnm : meth.name = "<init>" := hnm
  have in3 : ∀ w ∈ wsX30, w ∈ wsX3_init := (fun _ h => (List.mem_cons_of_mem _ (List.mem_append_right _ h)))
  have wd0 := hts (.methodLink RX3 1 objectInit) (List.mem_cons_of_mem _ (List.mem_append_left _ lm0))
  have wd1 := hts (.instanceMethod objectInit) (List.mem_cons_of_mem _ (List.mem_append_left _ lm1))
  have wd2 := hts (.code objectInit ⟨#[0xb1]⟩ 1 none) (List.mem_cons_of_mem _ (List.mem_append_left _ lm2))
  have wd3 := hts (.arrayClass .char) (List.mem_cons_of_mem _ (List.mem_append_left _ lm3))
  have wd4 := hts (.fieldLink RX3 7 "StoryDesk$Letters" "chars" "[C") (List.mem_cons_of_mem _ (List.mem_append_left _ lm4))
  have hl : lv_has ls 2 [(0, .ref h0), (1, .int x)] := hl
  have hH : sj_H D A ([(h0, .inr (3, [.null, .int 0]))] ++ []) s.heap := hH
  refine lv_aload_n hx hb dX3_init_0 rfl (lv_at hl 0 rfl) ?_
  refine W.objInit hx hb hown wd0 wd1 wd2 rfl (by rw [hml]; exact hl.1) rfl dX3_init_1 (Nat.le_of_ble_eq_true rfl) (Nat.le_of_ble_eq_true rfl) ?_
  refine W.eq (g2 := F0 m 4 ls []) rfl ?_
  refine lv_aload_n hx hb dX3_init_4 rfl (lv_at hl 0 rfl) ?_
  refine lv_iload_n hx hb dX3_init_5 rfl (lv_at hl 1 rfl) ?_
  refine sj_newa (atype := .char) (ty := .char) (N' := N) (a0 := (N, .inl (fun _ => 0))) hx hb wd3 rfl hK hH hS hA (fun _ => rfl) hx0 hN hbN rfl rfl (Nat.le_of_ble_eq_true rfl) (Nat.le_of_eq (Nat.zero_add N)) dX3_init_6 (fun q_1 k_2 H hK hH hS => ?_)
  have hK : va_K D vwCl [(k_2, .char)] s := hK
  have hH : sj_H D A ([(h0, .inr (3, [.null, .int 0])), (q_1, .inl (k_2, N, .inl (fun _ => 0)))] ++ []) H := hH
  refine sj_putF (D := D) (ci := 3) (v := .ref q_1) (ty := (.array .char)) (C := RX3) (F := TX3) (N := 2) hx hb hts in3 tyX3 tyX3_ok nmX3 hown hK hH hS 0 rfl rfl 0 (by decide) wd4 (fun _ h9 => h9) rfl hnm rfl (by decide +kernel) rfl rfl (Nat.le_of_ble_eq_true rfl) dX3_init_8 (fun H locs (hH : sj_H D A ([(h0, .inr (3, [.ref q_1, .int 0])), (q_1, .inl (k_2, N, .inl (fun _ => 0)))] ++ []) H) hS => ?_)
  exact sj_vret hx hb hr hlocks hS (q_1, k_2) trivial (sj_sub hH [0, 1] rfl rfl) (hK.sub [0] rfl) (Nat.le_of_ble_eq_true rfl) (Nat.le_of_eq (Nat.zero_add N)) dX3_init_11
set_option maxHeartbeats 4000000 in
set_option maxRecDepth 100000 in
/-- Case() -/
theorem c_X0_init (l : Launch) (D : va_G) (h0 : Nat) (sz : Nat)  : Met l yX0_init wsX0_init ({ frames := 1, cells := 0, slots := 0, locals := 20 }) (va_Pc [.ref h0] (sj_B D [(h0, .inr (0, [.null, .null, .null, .int 0, .int 0]))] [] sz sj_n)) (sj_Qv (S := Unit) D (fun _ => True) (fun u => [(h0, .inr (0, [.null, .null, .null, .int 0, .int 0]))]) (fun u => []) (va_A [(h0, .inr (0, [.null, .null, .null, .int 0, .int 0]))] sz)) 0 0 (va_A [(h0, .inr (0, [.null, .null, .null, .int 0, .int 0]))] sz) := by
  refine sj_met (cc := cX0_init) (maxL := 1) (ret := none) (by decide) rfl (Nat.le_of_ble_eq_true rfl) ?_
  intro p e s m below meth c A ls hx hb hr hml hts hown hlocks hnm hA hsz hS hH hK hE hl
  have hown : s.vm.findClass RX0 = some m.cls := hown
  have wd0 := hts (.methodLink RX0 1 objectInit) (List.mem_cons_of_mem _ lm0)
  have wd1 := hts (.instanceMethod objectInit) (List.mem_cons_of_mem _ lm1)
  have wd2 := hts (.code objectInit ⟨#[0xb1]⟩ 1 none) (List.mem_cons_of_mem _ lm2)
  have hl : lv_has ls 1 [(0, .ref h0)] := hl
  have hH : sj_H D A ([(h0, .inr (0, [.null, .null, .null, .int 0, .int 0]))] ++ []) s.heap := hH
  refine lv_aload_n hx hb dX0_init_0 rfl (lv_at hl 0 rfl) ?_
  refine W.objInit hx hb hown wd0 wd1 wd2 rfl (by rw [hml]; exact hl.1) rfl dX0_init_1 (Nat.le_of_ble_eq_true rfl) (Nat.le_of_ble_eq_true rfl) ?_
  refine W.eq (g2 := F0 m 4 ls []) rfl ?_
  exact sj_vret hx hb hr hlocks hS () trivial (sj_sub hH [0] rfl rfl) (sj_Knil hK) (Nat.le_of_ble_eq_true rfl) (Nat.le_of_ble_eq_true rfl) dX0_init_4
set_option maxHeartbeats 4000000 in
set_option maxRecDepth 100000 in
/-- Part() -/
theorem c_X4_init (l : Launch) (D : va_G) (h0 : Nat) (sz : Nat)  : Met l yX4_init wsX4_init ({ frames := 1, cells := 0, slots := 0, locals := 20 }) (va_Pc [.ref h0] (sj_B D [(h0, .inr (4, [.int 0, .int 0, .int 0, .int 0, .int 0, .int 0, .int 0, .int 0, .int 0]))] [] sz sj_n)) (sj_Qv (S := Unit) D (fun _ => True) (fun u => [(h0, .inr (4, [.int 0, .int 0, .int 0, .int 0, .int 0, .int 0, .int 0, .int 0, .int 0]))]) (fun u => []) (va_A [(h0, .inr (4, [.int 0, .int 0, .int 0, .int 0, .int 0, .int 0, .int 0, .int 0, .int 0]))] sz)) 0 0 (va_A [(h0, .inr (4, [.int 0, .int 0, .int 0, .int 0, .int 0, .int 0, .int 0, .int 0, .int 0]))] sz) := by
  refine sj_met (cc := cX4_init) (maxL := 1) (ret := none) (by decide) rfl (Nat.le_of_ble_eq_true rfl) ?_
  intro p e s m below meth c A ls hx hb hr hml hts hown hlocks hnm hA hsz hS hH hK hE hl
  have hown : s.vm.findClass RX4 = some m.cls := hown
  have wd0 := hts (.methodLink RX4 1 objectInit) (List.mem_cons_of_mem _ lm0)
  have wd1 := hts (.instanceMethod objectInit) (List.mem_cons_of_mem _ lm1)
  have wd2 := hts (.code objectInit ⟨#[0xb1]⟩ 1 none) (List.mem_cons_of_mem _ lm2)
  have hl : lv_has ls 1 [(0, .ref h0)] := hl
  have hH : sj_H D A ([(h0, .inr (4, [.int 0, .int 0, .int 0, .int 0, .int 0, .int 0, .int 0, .int 0, .int 0]))] ++ []) s.heap := hH
  refine lv_aload_n hx hb dX4_init_0 rfl (lv_at hl 0 rfl) ?_
  refine W.objInit hx hb hown wd0 wd1 wd2 rfl (by rw [hml]; exact hl.1) rfl dX4_init_1 (Nat.le_of_ble_eq_true rfl) (Nat.le_of_ble_eq_true rfl) ?_
  refine W.eq (g2 := F0 m 4 ls []) rfl ?_
  exact sj_vret hx hb hr hlocks hS () trivial (sj_sub hH [0] rfl rfl) (sj_Knil hK) (Nat.le_of_ble_eq_true rfl) (Nat.le_of_ble_eq_true rfl) dX4_init_4
set_option maxHeartbeats 4000000 in
set_option maxRecDepth 100000 in
/-- Row() -/
theorem c_X6_init (l : Launch) (D : va_G) (h0 : Nat) (sz : Nat)  : Met l yX6_init wsX6_init ({ frames := 1, cells := 2, slots := 8, locals := 20 }) (va_Pc [.ref h0] (sj_B D [(h0, .inr (6, [.null, .null, .int 0, .int 0]))] [] sz sj_n)) (sj_Qv (S := Nat × Nat × ClassId × ClassId) D (fun _ => True) (fun u => [(h0, .inr (6, [.ref u.1, .ref u.2.1, .int 0, .int 0])), (u.1, .inl (u.2.2.1, 4, .inl (fun _ => 0))), (u.2.1, .inl (u.2.2.2, 4, .inl (fun _ => 0)))]) (fun u => [(u.2.2.1, .int), (u.2.2.2, .int)]) (va_A [(h0, .inr (6, [.null, .null, .int 0, .int 0]))] sz)) 2 8 (va_A [(h0, .inr (6, [.null, .null, .int 0, .int 0]))] sz) := by
  refine sj_met (cc := cX6_init) (maxL := 1) (ret := none) (by decide) rfl (Nat.le_of_ble_eq_true rfl) ?_
  intro p e s m below meth c A ls hx hb hr hml hts hown hlocks hnm hA hsz hS hH hK hE hl
  have hown : s.vm.findClass RX6 = some m.cls := hown
  have hnm : meth.name = "<init>" := hnm
  have in6 : ∀ w ∈ wsX60, w ∈ wsX6_init := (fun _ h => (List.mem_cons_of_mem _ (List.mem_append_right _ h)))
  have wd0 := hts (.methodLink RX6 1 objectInit) (List.mem_cons_of_mem _ (List.mem_append_left _ lm0))
  have wd1 := hts (.instanceMethod objectInit) (List.mem_cons_of_mem _ (List.mem_append_left _ lm1))
  have wd2 := hts (.code objectInit ⟨#[0xb1]⟩ 1 none) (List.mem_cons_of_mem _ (List.mem_append_left _ lm2))
  have wd3 := hts (.arrayClass .int) (List.mem_cons_of_mem _ (List.mem_append_left _ lm3))
  have wd4 := hts (.fieldLink RX6 9 "StoryDesk$Row" "starts" "[I") (List.mem_cons_of_mem _ (List.mem_append_left _ lm4))
  have wd5 := hts (.fieldLink RX6 13 "StoryDesk$Row" "lengths" "[I") (List.mem_cons_of_mem _ (List.mem_append_left _ lm5))
  have hl : lv_has ls 1 [(0, .ref h0)] := hl
  have hH : sj_H D A ([(h0, .inr (6, [.null, .null, .int 0, .int 0]))] ++ []) s.heap := hH
  refine lv_aload_n hx hb dX6_init_0 rfl (lv_at hl 0 rfl) ?_
  refine W.objInit hx hb hown wd0 wd1 wd2 rfl (by rw [hml]; exact hl.1) rfl dX6_init_1 (Nat.le_of_ble_eq_true rfl) (Nat.le_of_ble_eq_true rfl) ?_
  refine W.eq (g2 := F0 m 4 ls []) rfl ?_
  refine lv_aload_n hx hb dX6_init_4 rfl (lv_at hl 0 rfl) ?_
  refine lv_iconst (v := 4) hx hb dX6_init_5 (by decide) ?_
  refine sj_newa (atype := .int) (ty := .int) (N' := 4) (a0 := (4, .inl (fun _ => 0))) hx hb wd3 rfl hK hH hS hA (fun _ => rfl) (by decide) (by decide) (by decide) rfl rfl (Nat.le_of_ble_eq_true rfl) (Nat.le_of_ble_eq_true rfl) dX6_init_6 (fun q_1 k_2 H hK hH hS => ?_)
  have hK : va_K D vwCl [(k_2, .int)] s := hK
  have hH : sj_H D A ([(h0, .inr (6, [.null, .null, .int 0, .int 0])), (q_1, .inl (k_2, 4, .inl (fun _ => 0)))] ++ []) H := hH
  refine sj_putF (D := D) (ci := 6) (v := .ref q_1) (ty := (.array .int)) (C := RX6) (F := TX6) (N := 4) hx hb hts in6 tyX6 tyX6_ok nmX6 hown hK hH hS 0 rfl rfl 0 (by decide) wd4 (fun _ h9 => h9) rfl hnm rfl (by decide +kernel) rfl rfl (Nat.le_of_ble_eq_true rfl) dX6_init_8 (fun H locs (hH : sj_H D A ([(h0, .inr (6, [.ref q_1, .null, .int 0, .int 0])), (q_1, .inl (k_2, 4, .inl (fun _ => 0)))] ++ []) H) hS => ?_)
  refine lv_aload_n hx hb dX6_init_11 rfl (lv_at hl 0 rfl) ?_
  refine lv_iconst (v := 4) hx hb dX6_init_12 (by decide) ?_
  refine sj_newa (atype := .int) (ty := .int) (N' := 4) (a0 := (4, .inl (fun _ => 0))) hx hb wd3 rfl hK hH hS hA (fun _ => rfl) (by decide) (by decide) (by decide) rfl rfl (Nat.le_of_ble_eq_true rfl) (Nat.le_of_ble_eq_true rfl) dX6_init_13 (fun q_3 k_4 H hK hH hS => ?_)
  have hK : va_K D vwCl [(k_2, .int), (k_4, .int)] s := hK
  have hH : sj_H D A ([(h0, .inr (6, [.ref q_1, .null, .int 0, .int 0])), (q_1, .inl (k_2, 4, .inl (fun _ => 0))), (q_3, .inl (k_4, 4, .inl (fun _ => 0)))] ++ []) H := hH
  refine sj_putF (D := D) (ci := 6) (v := .ref q_3) (ty := (.array .int)) (C := RX6) (F := TX6) (N := 4) hx hb hts in6 tyX6 tyX6_ok nmX6 hown hK hH hS 0 rfl rfl 1 (by decide) wd5 (fun _ h9 => h9) rfl hnm rfl (by decide +kernel) rfl rfl (Nat.le_of_ble_eq_true rfl) dX6_init_15 (fun H locs (hH : sj_H D A ([(h0, .inr (6, [.ref q_1, .ref q_3, .int 0, .int 0])), (q_1, .inl (k_2, 4, .inl (fun _ => 0))), (q_3, .inl (k_4, 4, .inl (fun _ => 0)))] ++ []) H) hS => ?_)
  exact sj_vret hx hb hr hlocks hS (q_1, q_3, k_2, k_4) trivial (sj_sub hH [0, 1, 2] rfl rfl) (hK.sub [0, 1] rfl) (Nat.le_of_ble_eq_true rfl) (Nat.le_of_ble_eq_true rfl) dX6_init_18
set_option maxHeartbeats 4000000 in
set_option maxRecDepth 100000 in
/-- TagExpression() -/
theorem c_X9_init (l : Launch) (D : va_G) (h0 : Nat) (sz : Nat)  : Met l yX9_init wsX9_init ({ frames := 1, cells := 1, slots := 40, locals := 20 }) (va_Pc [.ref h0] (sj_B D [(h0, .inr (9, [.null, .int 0, .int 0, .int 0]))] [] sz sj_n)) (sj_Qv (S := Nat × ClassId) D (fun _ => True) (fun u => [(h0, .inr (9, [.ref u.1, .int 0, .int 0, .int 0])), (u.1, .inl (u.2, 40, .inl (fun _ => 0)))]) (fun u => [(u.2, .char)]) (va_A [(h0, .inr (9, [.null, .int 0, .int 0, .int 0]))] sz)) 1 40 (va_A [(h0, .inr (9, [.null, .int 0, .int 0, .int 0]))] sz) := by
  refine sj_met (cc := cX9_init) (maxL := 1) (ret := none) (by decide) rfl (Nat.le_of_ble_eq_true rfl) ?_
  intro p e s m below meth c A ls hx hb hr hml hts hown hlocks hnm hA hsz hS hH hK hE hl
  have hown : s.vm.findClass RX9 = some m.cls := hown
  have hnm : meth.name = "<init>" := hnm
  have in9 : ∀ w ∈ wsX90, w ∈ wsX9_init := (fun _ h => (List.mem_cons_of_mem _ (List.mem_append_right _ h)))
  have wd0 := hts (.methodLink RX9 1 objectInit) (List.mem_cons_of_mem _ (List.mem_append_left _ lm0))
  have wd1 := hts (.instanceMethod objectInit) (List.mem_cons_of_mem _ (List.mem_append_left _ lm1))
  have wd2 := hts (.code objectInit ⟨#[0xb1]⟩ 1 none) (List.mem_cons_of_mem _ (List.mem_append_left _ lm2))
  have wd3 := hts (.arrayClass .char) (List.mem_cons_of_mem _ (List.mem_append_left _ lm3))
  have wd4 := hts (.fieldLink RX9 9 "StoryDesk$TagExpression" "signs" "[C") (List.mem_cons_of_mem _ (List.mem_append_left _ lm4))
  have hl : lv_has ls 1 [(0, .ref h0)] := hl
  have hH : sj_H D A ([(h0, .inr (9, [.null, .int 0, .int 0, .int 0]))] ++ []) s.heap := hH
  refine lv_aload_n hx hb dX9_init_0 rfl (lv_at hl 0 rfl) ?_
  refine W.objInit hx hb hown wd0 wd1 wd2 rfl (by rw [hml]; exact hl.1) rfl dX9_init_1 (Nat.le_of_ble_eq_true rfl) (Nat.le_of_ble_eq_true rfl) ?_
  refine W.eq (g2 := F0 m 4 ls []) rfl ?_
  refine lv_aload_n hx hb dX9_init_4 rfl (lv_at hl 0 rfl) ?_
  refine lv_bipush (v := 40) hx hb dX9_init_5 (by decide) ?_
  refine sj_newa (atype := .char) (ty := .char) (N' := 40) (a0 := (40, .inl (fun _ => 0))) hx hb wd3 rfl hK hH hS hA (fun _ => rfl) (by decide) (by decide) (by decide) rfl rfl (Nat.le_of_ble_eq_true rfl) (Nat.le_of_ble_eq_true rfl) dX9_init_7 (fun q_1 k_2 H hK hH hS => ?_)
  have hK : va_K D vwCl [(k_2, .char)] s := hK
  have hH : sj_H D A ([(h0, .inr (9, [.null, .int 0, .int 0, .int 0])), (q_1, .inl (k_2, 40, .inl (fun _ => 0)))] ++ []) H := hH
  refine sj_putF (D := D) (ci := 9) (v := .ref q_1) (ty := (.array .char)) (C := RX9) (F := TX9) (N := 4) hx hb hts in9 tyX9 tyX9_ok nmX9 hown hK hH hS 0 rfl rfl 0 (by decide) wd4 (fun _ h9 => h9) rfl hnm rfl (by decide +kernel) rfl rfl (Nat.le_of_ble_eq_true rfl) dX9_init_9 (fun H locs (hH : sj_H D A ([(h0, .inr (9, [.ref q_1, .int 0, .int 0, .int 0])), (q_1, .inl (k_2, 40, .inl (fun _ => 0)))] ++ []) H) hS => ?_)
  exact sj_vret hx hb hr hlocks hS (q_1, k_2) trivial (sj_sub hH [0, 1] rfl rfl) (hK.sub [0] rfl) (Nat.le_of_ble_eq_true rfl) (Nat.le_of_ble_eq_true rfl) dX9_init_12
set_option maxHeartbeats 4000000 in
set_option maxRecDepth 100000 in
/-- Worker(number) -/
theorem c_X10_init (l : Launch) (D : va_G) (h0 : Nat) (x : Int32) (sz : Nat)  : Met l yX10_init wsX10_init ({ frames := 1, cells := 0, slots := 0, locals := 20 }) (va_Pc [.ref h0, .int x] (sj_B D [(h0, .inr (10, [.int 0, .int 0, .int 0, .int 0, .int 0, .double 0, .int 0, .int 0]))] [] sz sj_n)) (sj_Qv (S := Unit) D (fun _ => True) (fun u => [(h0, .inr (10, [.int x, .int (-1), .int 0, .int 0, .int 0, .double 0, .int 0, .int 0]))]) (fun u => []) (va_A [(h0, .inr (10, [.int 0, .int 0, .int 0, .int 0, .int 0, .double 0, .int 0, .int 0]))] sz)) 0 0 (va_A [(h0, .inr (10, [.int 0, .int 0, .int 0, .int 0, .int 0, .double 0, .int 0, .int 0]))] sz) := by
  refine sj_met (cc := cX10_init) (maxL := 2) (ret := none) (by decide) rfl (Nat.le_of_ble_eq_true rfl) ?_
  intro p e s m below meth c A ls hx hb hr hml hts hown hlocks hnm hA hsz hS hH hK hE hl
  have hown : s.vm.findClass RX10 = some m.cls := hown
  have hnm : meth.name = "<init>" := hnm
  have in10 : ∀ w ∈ wsX100, w ∈ wsX10_init := (fun _ h => (List.mem_cons_of_mem _ (List.mem_append_right _ h)))
  have wd0 := hts (.methodLink RX10 3 objectInit) (List.mem_cons_of_mem _ (List.mem_append_left _ lm0))
  have wd1 := hts (.instanceMethod objectInit) (List.mem_cons_of_mem _ (List.mem_append_left _ lm1))
  have wd2 := hts (.code objectInit ⟨#[0xb1]⟩ 1 none) (List.mem_cons_of_mem _ (List.mem_append_left _ lm2))
  have wd3 := hts (.fieldLink RX10 9 "StoryDesk$Worker" "name" "I") (List.mem_cons_of_mem _ (List.mem_append_left _ lm3))
  have wd4 := hts (.fieldLink RX10 15 "StoryDesk$Worker" "story" "I") (List.mem_cons_of_mem _ (List.mem_append_left _ lm4))
  have hl : lv_has ls 2 [(0, .ref h0), (1, .int x)] := hl
  have hH : sj_H D A ([(h0, .inr (10, [.int 0, .int 0, .int 0, .int 0, .int 0, .double 0, .int 0, .int 0]))] ++ []) s.heap := hH
  refine lv_aload_n hx hb dX10_init_0 rfl (lv_at hl 0 rfl) ?_
  refine W.objInit hx hb hown wd0 wd1 wd2 rfl (by rw [hml]; exact hl.1) rfl dX10_init_1 (Nat.le_of_ble_eq_true rfl) (Nat.le_of_ble_eq_true rfl) ?_
  refine W.eq (g2 := F0 m 4 ls []) rfl ?_
  refine lv_aload_n hx hb dX10_init_4 rfl (lv_at hl 0 rfl) ?_
  refine lv_iload_n hx hb dX10_init_5 rfl (lv_at hl 1 rfl) ?_
  refine sj_putF (D := D) (ci := 10) (v := .int x) (ty := .int) (C := RX10) (F := TX10) (N := 8) hx hb hts in10 tyX10 tyX10_ok nmX10 hown hK hH hS 0 rfl rfl 0 (by decide) wd3 (fun _ h9 => h9) rfl hnm rfl (by decide +kernel) rfl rfl (Nat.le_of_ble_eq_true rfl) dX10_init_6 (fun H locs (hH : sj_H D A ([(h0, .inr (10, [.int x, .int 0, .int 0, .int 0, .int 0, .double 0, .int 0, .int 0]))] ++ []) H) hS => ?_)
  refine lv_aload_n hx hb dX10_init_9 rfl (lv_at hl 0 rfl) ?_
  refine lv_iconst (v := (-1)) hx hb dX10_init_10 (by decide) ?_
  refine sj_put (D := D) (ci := 10) (v := .int (-1)) (ty := .int) (C := RX10) (F := TX10) (N := 8) hx hb hts in10 tyX10 tyX10_ok nmX10 hown hK hH hS 0 rfl rfl 1 (by decide) wd4 (fun _ h9 => h9) rfl (by decide +kernel) rfl rfl (Nat.le_of_ble_eq_true rfl) dX10_init_11 (fun H locs (hH : sj_H D A ([(h0, .inr (10, [.int x, .int (-1), .int 0, .int 0, .int 0, .double 0, .int 0, .int 0]))] ++ []) H) hS => ?_)
  exact sj_vret hx hb hr hlocks hS () trivial (sj_sub hH [0] rfl rfl) (sj_Knil hK) (Nat.le_of_ble_eq_true rfl) (Nat.le_of_ble_eq_true rfl) dX10_init_14
set_option maxHeartbeats 4000000 in
set_option maxRecDepth 100000 in
/-- Expression() -/
theorem c_X2_init (l : Launch) (D : va_G) (h0 : Nat) (sz : Nat)  : Met l yX2_init wsX2_init ({ frames := 1, cells := 8, slots := 322, locals := 20 }) (va_Pc [.ref h0] (sj_B D [(h0, .inr (2, [.null, .null, .int 0, .null, .null, .int 0, .int 0, .null, .null, .null, .null]))] [] sz sj_n)) (sj_Qv (S := Nat × Nat × Nat × Nat × Nat × Nat × Nat × Nat × ClassId × ClassId × ClassId × ClassId × ClassId × ClassId × ClassId × ClassId) D (fun _ => True) (fun u => [(h0, .inr (2, [.ref u.1, .ref u.2.1, .int 0, .ref u.2.2.1, .ref u.2.2.2.1, .int 0, .int 0, .ref u.2.2.2.2.1, .ref u.2.2.2.2.2.1, .ref u.2.2.2.2.2.2.1, .ref u.2.2.2.2.2.2.2.1])), (u.1, .inl (u.2.2.2.2.2.2.2.2.1, 60, .inl (fun _ => 0))), (u.2.1, .inl (u.2.2.2.2.2.2.2.2.2.1, 62, .inl (fun _ => 0))), (u.2.2.1, .inl (u.2.2.2.2.2.2.2.2.2.2.1, 60, .inl (fun _ => 0))), (u.2.2.2.1, .inl (u.2.2.2.2.2.2.2.2.2.2.2.1, 61, .inl (fun _ => 0))), (u.2.2.2.2.1, .inl (u.2.2.2.2.2.2.2.2.2.2.2.2.1, 61, .inr (.inl (fun _ => 0)))), (u.2.2.2.2.2.1, .inl (u.2.2.2.2.2.2.2.2.2.2.2.2.2.1, 6, .inl (fun _ => 0))), (u.2.2.2.2.2.2.1, .inl (u.2.2.2.2.2.2.2.2.2.2.2.2.2.2.1, 6, .inl (fun _ => 0))), (u.2.2.2.2.2.2.2.1, .inl (u.2.2.2.2.2.2.2.2.2.2.2.2.2.2.2, 6, .inl (fun _ => 0)))]) (fun u => [(u.2.2.2.2.2.2.2.2.1, .char), (u.2.2.2.2.2.2.2.2.2.1, .int), (u.2.2.2.2.2.2.2.2.2.2.1, .char), (u.2.2.2.2.2.2.2.2.2.2.2.1, .int), (u.2.2.2.2.2.2.2.2.2.2.2.2.1, .long), (u.2.2.2.2.2.2.2.2.2.2.2.2.2.1, .int), (u.2.2.2.2.2.2.2.2.2.2.2.2.2.2.1, .int), (u.2.2.2.2.2.2.2.2.2.2.2.2.2.2.2, .char)]) (va_A [(h0, .inr (2, [.null, .null, .int 0, .null, .null, .int 0, .int 0, .null, .null, .null, .null]))] sz)) 8 322 (va_A [(h0, .inr (2, [.null, .null, .int 0, .null, .null, .int 0, .int 0, .null, .null, .null, .null]))] sz) := by
  refine sj_met (cc := cX2_init) (maxL := 1) (ret := none) (by decide) rfl (Nat.le_of_ble_eq_true rfl) ?_
  intro p e s m below meth c A ls hx hb hr hml hts hown hlocks hnm hA hsz hS hH hK hE hl
  have hown : s.vm.findClass RX2 = some m.cls := hown
  have hnm : meth.name = "<init>" := hnm
  have in2 : ∀ w ∈ wsX20, w ∈ wsX2_init := (fun _ h => (List.mem_cons_of_mem _ (List.mem_append_right _ h)))
  have wd0 := hts (.methodLink RX2 3 objectInit) (List.mem_cons_of_mem _ (List.mem_append_left _ lm0))
  have wd1 := hts (.instanceMethod objectInit) (List.mem_cons_of_mem _ (List.mem_append_left _ lm1))
  have wd2 := hts (.code objectInit ⟨#[0xb1]⟩ 1 none) (List.mem_cons_of_mem _ (List.mem_append_left _ lm2))
  have wd3 := hts (.arrayClass .char) (List.mem_cons_of_mem _ (List.mem_append_left _ lm3))
  have wd4 := hts (.fieldLink RX2 11 "StoryDesk$Expression" "chars" "[C") (List.mem_cons_of_mem _ (List.mem_append_left _ lm4))
  have wd5 := hts (.arrayClass .int) (List.mem_cons_of_mem _ (List.mem_append_left _ lm5))
  have wd6 := hts (.fieldLink RX2 15 "StoryDesk$Expression" "choiceStarts" "[I") (List.mem_cons_of_mem _ (List.mem_append_left _ lm6))
  have wd7 := hts (.fieldLink RX2 19 "StoryDesk$Expression" "kinds" "[C") (List.mem_cons_of_mem _ (List.mem_append_left _ lm7))
  have wd8 := hts (.fieldLink RX2 22 "StoryDesk$Expression" "firstChoices" "[I") (List.mem_cons_of_mem _ (List.mem_append_left _ lm8))
  have wd9 := hts (.arrayClass .long) (List.mem_cons_of_mem _ (List.mem_append_left _ lm9))
  have wd10 := hts (.fieldLink RX2 25 "StoryDesk$Expression" "open" "[J") (List.mem_cons_of_mem _ (List.mem_append_left _ lm10))
  have wd11 := hts (.fieldLink RX2 29 "StoryDesk$Expression" "begins" "[I") (List.mem_cons_of_mem _ (List.mem_append_left _ lm11))
  have wd12 := hts (.fieldLink RX2 32 "StoryDesk$Expression" "lengths" "[I") (List.mem_cons_of_mem _ (List.mem_append_left _ lm12))
  have wd13 := hts (.fieldLink RX2 35 "StoryDesk$Expression" "argumentKinds" "[C") (List.mem_cons_of_mem _ (List.mem_append_left _ lm13))
  have hl : lv_has ls 1 [(0, .ref h0)] := hl
  have hH : sj_H D A ([(h0, .inr (2, [.null, .null, .int 0, .null, .null, .int 0, .int 0, .null, .null, .null, .null]))] ++ []) s.heap := hH
  refine lv_aload_n hx hb dX2_init_0 rfl (lv_at hl 0 rfl) ?_
  refine W.objInit hx hb hown wd0 wd1 wd2 rfl (by rw [hml]; exact hl.1) rfl dX2_init_1 (Nat.le_of_ble_eq_true rfl) (Nat.le_of_ble_eq_true rfl) ?_
  refine W.eq (g2 := F0 m 4 ls []) rfl ?_
  refine lv_aload_n hx hb dX2_init_4 rfl (lv_at hl 0 rfl) ?_
  refine lv_bipush (v := 60) hx hb dX2_init_5 (by decide) ?_
  refine sj_newa (atype := .char) (ty := .char) (N' := 60) (a0 := (60, .inl (fun _ => 0))) hx hb wd3 rfl hK hH hS hA (fun _ => rfl) (by decide) (by decide) (by decide) rfl rfl (Nat.le_of_ble_eq_true rfl) (Nat.le_of_ble_eq_true rfl) dX2_init_7 (fun q_1 k_2 H hK hH hS => ?_)
  have hK : va_K D vwCl [(k_2, .char)] s := hK
  have hH : sj_H D A ([(h0, .inr (2, [.null, .null, .int 0, .null, .null, .int 0, .int 0, .null, .null, .null, .null])), (q_1, .inl (k_2, 60, .inl (fun _ => 0)))] ++ []) H := hH
  refine sj_putF (D := D) (ci := 2) (v := .ref q_1) (ty := (.array .char)) (C := RX2) (F := TX2) (N := 11) hx hb hts in2 tyX2 tyX2_ok nmX2 hown hK hH hS 0 rfl rfl 0 (by decide) wd4 (fun _ h9 => h9) rfl hnm rfl (by decide +kernel) rfl rfl (Nat.le_of_ble_eq_true rfl) dX2_init_9 (fun H locs (hH : sj_H D A ([(h0, .inr (2, [.ref q_1, .null, .int 0, .null, .null, .int 0, .int 0, .null, .null, .null, .null])), (q_1, .inl (k_2, 60, .inl (fun _ => 0)))] ++ []) H) hS => ?_)
  refine lv_aload_n hx hb dX2_init_12 rfl (lv_at hl 0 rfl) ?_
  refine lv_bipush (v := 62) hx hb dX2_init_13 (by decide) ?_
  refine sj_newa (atype := .int) (ty := .int) (N' := 62) (a0 := (62, .inl (fun _ => 0))) hx hb wd5 rfl hK hH hS hA (fun _ => rfl) (by decide) (by decide) (by decide) rfl rfl (Nat.le_of_ble_eq_true rfl) (Nat.le_of_ble_eq_true rfl) dX2_init_15 (fun q_3 k_4 H hK hH hS => ?_)
  have hK : va_K D vwCl [(k_2, .char), (k_4, .int)] s := hK
  have hH : sj_H D A ([(h0, .inr (2, [.ref q_1, .null, .int 0, .null, .null, .int 0, .int 0, .null, .null, .null, .null])), (q_1, .inl (k_2, 60, .inl (fun _ => 0))), (q_3, .inl (k_4, 62, .inl (fun _ => 0)))] ++ []) H := hH
  refine sj_putF (D := D) (ci := 2) (v := .ref q_3) (ty := (.array .int)) (C := RX2) (F := TX2) (N := 11) hx hb hts in2 tyX2 tyX2_ok nmX2 hown hK hH hS 0 rfl rfl 1 (by decide) wd6 (fun _ h9 => h9) rfl hnm rfl (by decide +kernel) rfl rfl (Nat.le_of_ble_eq_true rfl) dX2_init_17 (fun H locs (hH : sj_H D A ([(h0, .inr (2, [.ref q_1, .ref q_3, .int 0, .null, .null, .int 0, .int 0, .null, .null, .null, .null])), (q_1, .inl (k_2, 60, .inl (fun _ => 0))), (q_3, .inl (k_4, 62, .inl (fun _ => 0)))] ++ []) H) hS => ?_)
  refine lv_aload_n hx hb dX2_init_20 rfl (lv_at hl 0 rfl) ?_
  refine lv_bipush (v := 60) hx hb dX2_init_21 (by decide) ?_
  refine sj_newa (atype := .char) (ty := .char) (N' := 60) (a0 := (60, .inl (fun _ => 0))) hx hb wd3 rfl hK hH hS hA (fun _ => rfl) (by decide) (by decide) (by decide) rfl rfl (Nat.le_of_ble_eq_true rfl) (Nat.le_of_ble_eq_true rfl) dX2_init_23 (fun q_5 k_6 H hK hH hS => ?_)
  have hK : va_K D vwCl [(k_2, .char), (k_4, .int), (k_6, .char)] s := hK
  have hH : sj_H D A ([(h0, .inr (2, [.ref q_1, .ref q_3, .int 0, .null, .null, .int 0, .int 0, .null, .null, .null, .null])), (q_1, .inl (k_2, 60, .inl (fun _ => 0))), (q_3, .inl (k_4, 62, .inl (fun _ => 0))), (q_5, .inl (k_6, 60, .inl (fun _ => 0)))] ++ []) H := hH
  refine sj_putF (D := D) (ci := 2) (v := .ref q_5) (ty := (.array .char)) (C := RX2) (F := TX2) (N := 11) hx hb hts in2 tyX2 tyX2_ok nmX2 hown hK hH hS 0 rfl rfl 3 (by decide) wd7 (fun _ h9 => h9) rfl hnm rfl (by decide +kernel) rfl rfl (Nat.le_of_ble_eq_true rfl) dX2_init_25 (fun H locs (hH : sj_H D A ([(h0, .inr (2, [.ref q_1, .ref q_3, .int 0, .ref q_5, .null, .int 0, .int 0, .null, .null, .null, .null])), (q_1, .inl (k_2, 60, .inl (fun _ => 0))), (q_3, .inl (k_4, 62, .inl (fun _ => 0))), (q_5, .inl (k_6, 60, .inl (fun _ => 0)))] ++ []) H) hS => ?_)
  refine lv_aload_n hx hb dX2_init_28 rfl (lv_at hl 0 rfl) ?_
  refine lv_bipush (v := 61) hx hb dX2_init_29 (by decide) ?_
  refine sj_newa (atype := .int) (ty := .int) (N' := 61) (a0 := (61, .inl (fun _ => 0))) hx hb wd5 rfl hK hH hS hA (fun _ => rfl) (by decide) (by decide) (by decide) rfl rfl (Nat.le_of_ble_eq_true rfl) (Nat.le_of_ble_eq_true rfl) dX2_init_31 (fun q_7 k_8 H hK hH hS => ?_)
  have hK : va_K D vwCl [(k_2, .char), (k_4, .int), (k_6, .char), (k_8, .int)] s := hK
  have hH : sj_H D A ([(h0, .inr (2, [.ref q_1, .ref q_3, .int 0, .ref q_5, .null, .int 0, .int 0, .null, .null, .null, .null])), (q_1, .inl (k_2, 60, .inl (fun _ => 0))), (q_3, .inl (k_4, 62, .inl (fun _ => 0))), (q_5, .inl (k_6, 60, .inl (fun _ => 0))), (q_7, .inl (k_8, 61, .inl (fun _ => 0)))] ++ []) H := hH
  refine sj_putF (D := D) (ci := 2) (v := .ref q_7) (ty := (.array .int)) (C := RX2) (F := TX2) (N := 11) hx hb hts in2 tyX2 tyX2_ok nmX2 hown hK hH hS 0 rfl rfl 4 (by decide) wd8 (fun _ h9 => h9) rfl hnm rfl (by decide +kernel) rfl rfl (Nat.le_of_ble_eq_true rfl) dX2_init_33 (fun H locs (hH : sj_H D A ([(h0, .inr (2, [.ref q_1, .ref q_3, .int 0, .ref q_5, .ref q_7, .int 0, .int 0, .null, .null, .null, .null])), (q_1, .inl (k_2, 60, .inl (fun _ => 0))), (q_3, .inl (k_4, 62, .inl (fun _ => 0))), (q_5, .inl (k_6, 60, .inl (fun _ => 0))), (q_7, .inl (k_8, 61, .inl (fun _ => 0)))] ++ []) H) hS => ?_)
  refine lv_aload_n hx hb dX2_init_36 rfl (lv_at hl 0 rfl) ?_
  refine lv_bipush (v := 61) hx hb dX2_init_37 (by decide) ?_
  refine sj_newa (atype := .long) (ty := .long) (N' := 61) (a0 := (61, .inr (.inl (fun _ => 0)))) hx hb wd9 rfl hK hH hS hA (fun _ => rfl) (by decide) (by decide) (by decide) rfl rfl (Nat.le_of_ble_eq_true rfl) (Nat.le_of_ble_eq_true rfl) dX2_init_39 (fun q_9 k_10 H hK hH hS => ?_)
  have hK : va_K D vwCl [(k_2, .char), (k_4, .int), (k_6, .char), (k_8, .int), (k_10, .long)] s := hK
  have hH : sj_H D A ([(h0, .inr (2, [.ref q_1, .ref q_3, .int 0, .ref q_5, .ref q_7, .int 0, .int 0, .null, .null, .null, .null])), (q_1, .inl (k_2, 60, .inl (fun _ => 0))), (q_3, .inl (k_4, 62, .inl (fun _ => 0))), (q_5, .inl (k_6, 60, .inl (fun _ => 0))), (q_7, .inl (k_8, 61, .inl (fun _ => 0))), (q_9, .inl (k_10, 61, .inr (.inl (fun _ => 0))))] ++ []) H := hH
  refine sj_putF (D := D) (ci := 2) (v := .ref q_9) (ty := (.array .long)) (C := RX2) (F := TX2) (N := 11) hx hb hts in2 tyX2 tyX2_ok nmX2 hown hK hH hS 0 rfl rfl 7 (by decide) wd10 (fun _ h9 => h9) rfl hnm rfl (by decide +kernel) rfl rfl (Nat.le_of_ble_eq_true rfl) dX2_init_41 (fun H locs (hH : sj_H D A ([(h0, .inr (2, [.ref q_1, .ref q_3, .int 0, .ref q_5, .ref q_7, .int 0, .int 0, .ref q_9, .null, .null, .null])), (q_1, .inl (k_2, 60, .inl (fun _ => 0))), (q_3, .inl (k_4, 62, .inl (fun _ => 0))), (q_5, .inl (k_6, 60, .inl (fun _ => 0))), (q_7, .inl (k_8, 61, .inl (fun _ => 0))), (q_9, .inl (k_10, 61, .inr (.inl (fun _ => 0))))] ++ []) H) hS => ?_)
  refine lv_aload_n hx hb dX2_init_44 rfl (lv_at hl 0 rfl) ?_
  refine lv_bipush (v := 6) hx hb dX2_init_45 (by decide) ?_
  refine sj_newa (atype := .int) (ty := .int) (N' := 6) (a0 := (6, .inl (fun _ => 0))) hx hb wd5 rfl hK hH hS hA (fun _ => rfl) (by decide) (by decide) (by decide) rfl rfl (Nat.le_of_ble_eq_true rfl) (Nat.le_of_ble_eq_true rfl) dX2_init_47 (fun q_11 k_12 H hK hH hS => ?_)
  have hK : va_K D vwCl [(k_2, .char), (k_4, .int), (k_6, .char), (k_8, .int), (k_10, .long), (k_12, .int)] s := hK
  have hH : sj_H D A ([(h0, .inr (2, [.ref q_1, .ref q_3, .int 0, .ref q_5, .ref q_7, .int 0, .int 0, .ref q_9, .null, .null, .null])), (q_1, .inl (k_2, 60, .inl (fun _ => 0))), (q_3, .inl (k_4, 62, .inl (fun _ => 0))), (q_5, .inl (k_6, 60, .inl (fun _ => 0))), (q_7, .inl (k_8, 61, .inl (fun _ => 0))), (q_9, .inl (k_10, 61, .inr (.inl (fun _ => 0)))), (q_11, .inl (k_12, 6, .inl (fun _ => 0)))] ++ []) H := hH
  refine sj_putF (D := D) (ci := 2) (v := .ref q_11) (ty := (.array .int)) (C := RX2) (F := TX2) (N := 11) hx hb hts in2 tyX2 tyX2_ok nmX2 hown hK hH hS 0 rfl rfl 8 (by decide) wd11 (fun _ h9 => h9) rfl hnm rfl (by decide +kernel) rfl rfl (Nat.le_of_ble_eq_true rfl) dX2_init_49 (fun H locs (hH : sj_H D A ([(h0, .inr (2, [.ref q_1, .ref q_3, .int 0, .ref q_5, .ref q_7, .int 0, .int 0, .ref q_9, .ref q_11, .null, .null])), (q_1, .inl (k_2, 60, .inl (fun _ => 0))), (q_3, .inl (k_4, 62, .inl (fun _ => 0))), (q_5, .inl (k_6, 60, .inl (fun _ => 0))), (q_7, .inl (k_8, 61, .inl (fun _ => 0))), (q_9, .inl (k_10, 61, .inr (.inl (fun _ => 0)))), (q_11, .inl (k_12, 6, .inl (fun _ => 0)))] ++ []) H) hS => ?_)
  refine lv_aload_n hx hb dX2_init_52 rfl (lv_at hl 0 rfl) ?_
  refine lv_bipush (v := 6) hx hb dX2_init_53 (by decide) ?_
  refine sj_newa (atype := .int) (ty := .int) (N' := 6) (a0 := (6, .inl (fun _ => 0))) hx hb wd5 rfl hK hH hS hA (fun _ => rfl) (by decide) (by decide) (by decide) rfl rfl (Nat.le_of_ble_eq_true rfl) (Nat.le_of_ble_eq_true rfl) dX2_init_55 (fun q_13 k_14 H hK hH hS => ?_)
  have hK : va_K D vwCl [(k_2, .char), (k_4, .int), (k_6, .char), (k_8, .int), (k_10, .long), (k_12, .int), (k_14, .int)] s := hK
  have hH : sj_H D A ([(h0, .inr (2, [.ref q_1, .ref q_3, .int 0, .ref q_5, .ref q_7, .int 0, .int 0, .ref q_9, .ref q_11, .null, .null])), (q_1, .inl (k_2, 60, .inl (fun _ => 0))), (q_3, .inl (k_4, 62, .inl (fun _ => 0))), (q_5, .inl (k_6, 60, .inl (fun _ => 0))), (q_7, .inl (k_8, 61, .inl (fun _ => 0))), (q_9, .inl (k_10, 61, .inr (.inl (fun _ => 0)))), (q_11, .inl (k_12, 6, .inl (fun _ => 0))), (q_13, .inl (k_14, 6, .inl (fun _ => 0)))] ++ []) H := hH
  refine sj_putF (D := D) (ci := 2) (v := .ref q_13) (ty := (.array .int)) (C := RX2) (F := TX2) (N := 11) hx hb hts in2 tyX2 tyX2_ok nmX2 hown hK hH hS 0 rfl rfl 9 (by decide) wd12 (fun _ h9 => h9) rfl hnm rfl (by decide +kernel) rfl rfl (Nat.le_of_ble_eq_true rfl) dX2_init_57 (fun H locs (hH : sj_H D A ([(h0, .inr (2, [.ref q_1, .ref q_3, .int 0, .ref q_5, .ref q_7, .int 0, .int 0, .ref q_9, .ref q_11, .ref q_13, .null])), (q_1, .inl (k_2, 60, .inl (fun _ => 0))), (q_3, .inl (k_4, 62, .inl (fun _ => 0))), (q_5, .inl (k_6, 60, .inl (fun _ => 0))), (q_7, .inl (k_8, 61, .inl (fun _ => 0))), (q_9, .inl (k_10, 61, .inr (.inl (fun _ => 0)))), (q_11, .inl (k_12, 6, .inl (fun _ => 0))), (q_13, .inl (k_14, 6, .inl (fun _ => 0)))] ++ []) H) hS => ?_)
  refine lv_aload_n hx hb dX2_init_60 rfl (lv_at hl 0 rfl) ?_
  refine lv_bipush (v := 6) hx hb dX2_init_61 (by decide) ?_
  refine sj_newa (atype := .char) (ty := .char) (N' := 6) (a0 := (6, .inl (fun _ => 0))) hx hb wd3 rfl hK hH hS hA (fun _ => rfl) (by decide) (by decide) (by decide) rfl rfl (Nat.le_of_ble_eq_true rfl) (Nat.le_of_ble_eq_true rfl) dX2_init_63 (fun q_15 k_16 H hK hH hS => ?_)
  have hK : va_K D vwCl [(k_2, .char), (k_4, .int), (k_6, .char), (k_8, .int), (k_10, .long), (k_12, .int), (k_14, .int), (k_16, .char)] s := hK
  have hH : sj_H D A ([(h0, .inr (2, [.ref q_1, .ref q_3, .int 0, .ref q_5, .ref q_7, .int 0, .int 0, .ref q_9, .ref q_11, .ref q_13, .null])), (q_1, .inl (k_2, 60, .inl (fun _ => 0))), (q_3, .inl (k_4, 62, .inl (fun _ => 0))), (q_5, .inl (k_6, 60, .inl (fun _ => 0))), (q_7, .inl (k_8, 61, .inl (fun _ => 0))), (q_9, .inl (k_10, 61, .inr (.inl (fun _ => 0)))), (q_11, .inl (k_12, 6, .inl (fun _ => 0))), (q_13, .inl (k_14, 6, .inl (fun _ => 0))), (q_15, .inl (k_16, 6, .inl (fun _ => 0)))] ++ []) H := hH
  refine sj_putF (D := D) (ci := 2) (v := .ref q_15) (ty := (.array .char)) (C := RX2) (F := TX2) (N := 11) hx hb hts in2 tyX2 tyX2_ok nmX2 hown hK hH hS 0 rfl rfl 10 (by decide) wd13 (fun _ h9 => h9) rfl hnm rfl (by decide +kernel) rfl rfl (Nat.le_of_ble_eq_true rfl) dX2_init_65 (fun H locs (hH : sj_H D A ([(h0, .inr (2, [.ref q_1, .ref q_3, .int 0, .ref q_5, .ref q_7, .int 0, .int 0, .ref q_9, .ref q_11, .ref q_13, .ref q_15])), (q_1, .inl (k_2, 60, .inl (fun _ => 0))), (q_3, .inl (k_4, 62, .inl (fun _ => 0))), (q_5, .inl (k_6, 60, .inl (fun _ => 0))), (q_7, .inl (k_8, 61, .inl (fun _ => 0))), (q_9, .inl (k_10, 61, .inr (.inl (fun _ => 0)))), (q_11, .inl (k_12, 6, .inl (fun _ => 0))), (q_13, .inl (k_14, 6, .inl (fun _ => 0))), (q_15, .inl (k_16, 6, .inl (fun _ => 0)))] ++ []) H) hS => ?_)
  exact sj_vret hx hb hr hlocks hS (q_1, q_3, q_5, q_7, q_9, q_11, q_13, q_15, k_2, k_4, k_6, k_8, k_10, k_12, k_14, k_16) trivial (sj_sub hH [0, 1, 2, 3, 4, 5, 6, 7, 8] rfl rfl) (hK.sub [0, 1, 2, 3, 4, 5, 6, 7] rfl) (Nat.le_of_ble_eq_true rfl) (Nat.le_of_ble_eq_true rfl) dX2_init_68
set_option maxHeartbeats 4000000 in
set_option maxRecDepth 100000 in
/-- Scripts() -/
theorem c_X8_init (l : Launch) (D : va_G) (h0 : Nat) (sz : Nat)  : Met l yX8_init wsX8_init ({ frames := 1, cells := 3, slots := 72, locals := 20 }) (va_Pc [.ref h0] (sj_B D [(h0, .inr (8, [.null, .null, .null]))] [] sz sj_n)) (sj_Qv (S := Nat × Nat × Nat × ClassId × ClassId × ClassId) D (fun _ => True) (fun u => [(h0, .inr (8, [.ref u.1, .ref u.2.1, .ref u.2.2.1])), (u.1, .inl (u.2.2.2.1, 32, .inl (fun _ => 0))), (u.2.1, .inl (u.2.2.2.2.1, 32, .inl (fun _ => 0))), (u.2.2.1, .inl (u.2.2.2.2.2, 8, .inl (fun _ => 0)))]) (fun u => [(u.2.2.2.1, .int), (u.2.2.2.2.1, .int), (u.2.2.2.2.2, .int)]) (va_A [(h0, .inr (8, [.null, .null, .null]))] sz)) 3 72 (va_A [(h0, .inr (8, [.null, .null, .null]))] sz) := by
  refine sj_met (cc := cX8_init) (maxL := 1) (ret := none) (by decide) rfl (Nat.le_of_ble_eq_true rfl) ?_
  intro p e s m below meth c A ls hx hb hr hml hts hown hlocks hnm hA hsz hS hH hK hE hl
  have hown : s.vm.findClass RX8 = some m.cls := hown
  have hnm : meth.name = "<init>" := hnm
  have in8 : ∀ w ∈ wsX80, w ∈ wsX8_init := (fun _ h => (List.mem_cons_of_mem _ (List.mem_append_right _ h)))
  have wd0 := hts (.methodLink RX8 3 objectInit) (List.mem_cons_of_mem _ (List.mem_append_left _ lm0))
  have wd1 := hts (.instanceMethod objectInit) (List.mem_cons_of_mem _ (List.mem_append_left _ lm1))
  have wd2 := hts (.code objectInit ⟨#[0xb1]⟩ 1 none) (List.mem_cons_of_mem _ (List.mem_append_left _ lm2))
  have wd3 := hts (.arrayClass .int) (List.mem_cons_of_mem _ (List.mem_append_left _ lm3))
  have wd4 := hts (.fieldLink RX8 11 "StoryDesk$Scripts" "commands" "[I") (List.mem_cons_of_mem _ (List.mem_append_left _ lm4))
  have wd5 := hts (.fieldLink RX8 15 "StoryDesk$Scripts" "amounts" "[I") (List.mem_cons_of_mem _ (List.mem_append_left _ lm5))
  have wd6 := hts (.fieldLink RX8 18 "StoryDesk$Scripts" "counts" "[I") (List.mem_cons_of_mem _ (List.mem_append_left _ lm6))
  have hl : lv_has ls 1 [(0, .ref h0)] := hl
  have hH : sj_H D A ([(h0, .inr (8, [.null, .null, .null]))] ++ []) s.heap := hH
  refine lv_aload_n hx hb dX8_init_0 rfl (lv_at hl 0 rfl) ?_
  refine W.objInit hx hb hown wd0 wd1 wd2 rfl (by rw [hml]; exact hl.1) rfl dX8_init_1 (Nat.le_of_ble_eq_true rfl) (Nat.le_of_ble_eq_true rfl) ?_
  refine W.eq (g2 := F0 m 4 ls []) rfl ?_
  refine lv_aload_n hx hb dX8_init_4 rfl (lv_at hl 0 rfl) ?_
  refine lv_bipush (v := 32) hx hb dX8_init_5 (by decide) ?_
  refine sj_newa (atype := .int) (ty := .int) (N' := 32) (a0 := (32, .inl (fun _ => 0))) hx hb wd3 rfl hK hH hS hA (fun _ => rfl) (by decide) (by decide) (by decide) rfl rfl (Nat.le_of_ble_eq_true rfl) (Nat.le_of_ble_eq_true rfl) dX8_init_7 (fun q_1 k_2 H hK hH hS => ?_)
  have hK : va_K D vwCl [(k_2, .int)] s := hK
  have hH : sj_H D A ([(h0, .inr (8, [.null, .null, .null])), (q_1, .inl (k_2, 32, .inl (fun _ => 0)))] ++ []) H := hH
  refine sj_putF (D := D) (ci := 8) (v := .ref q_1) (ty := (.array .int)) (C := RX8) (F := TX8) (N := 3) hx hb hts in8 tyX8 tyX8_ok nmX8 hown hK hH hS 0 rfl rfl 0 (by decide) wd4 (fun _ h9 => h9) rfl hnm rfl (by decide +kernel) rfl rfl (Nat.le_of_ble_eq_true rfl) dX8_init_9 (fun H locs (hH : sj_H D A ([(h0, .inr (8, [.ref q_1, .null, .null])), (q_1, .inl (k_2, 32, .inl (fun _ => 0)))] ++ []) H) hS => ?_)
  refine lv_aload_n hx hb dX8_init_12 rfl (lv_at hl 0 rfl) ?_
  refine lv_bipush (v := 32) hx hb dX8_init_13 (by decide) ?_
  refine sj_newa (atype := .int) (ty := .int) (N' := 32) (a0 := (32, .inl (fun _ => 0))) hx hb wd3 rfl hK hH hS hA (fun _ => rfl) (by decide) (by decide) (by decide) rfl rfl (Nat.le_of_ble_eq_true rfl) (Nat.le_of_ble_eq_true rfl) dX8_init_15 (fun q_3 k_4 H hK hH hS => ?_)
  have hK : va_K D vwCl [(k_2, .int), (k_4, .int)] s := hK
  have hH : sj_H D A ([(h0, .inr (8, [.ref q_1, .null, .null])), (q_1, .inl (k_2, 32, .inl (fun _ => 0))), (q_3, .inl (k_4, 32, .inl (fun _ => 0)))] ++ []) H := hH
  refine sj_putF (D := D) (ci := 8) (v := .ref q_3) (ty := (.array .int)) (C := RX8) (F := TX8) (N := 3) hx hb hts in8 tyX8 tyX8_ok nmX8 hown hK hH hS 0 rfl rfl 1 (by decide) wd5 (fun _ h9 => h9) rfl hnm rfl (by decide +kernel) rfl rfl (Nat.le_of_ble_eq_true rfl) dX8_init_17 (fun H locs (hH : sj_H D A ([(h0, .inr (8, [.ref q_1, .ref q_3, .null])), (q_1, .inl (k_2, 32, .inl (fun _ => 0))), (q_3, .inl (k_4, 32, .inl (fun _ => 0)))] ++ []) H) hS => ?_)
  refine lv_aload_n hx hb dX8_init_20 rfl (lv_at hl 0 rfl) ?_
  refine lv_bipush (v := 8) hx hb dX8_init_21 (by decide) ?_
  refine sj_newa (atype := .int) (ty := .int) (N' := 8) (a0 := (8, .inl (fun _ => 0))) hx hb wd3 rfl hK hH hS hA (fun _ => rfl) (by decide) (by decide) (by decide) rfl rfl (Nat.le_of_ble_eq_true rfl) (Nat.le_of_ble_eq_true rfl) dX8_init_23 (fun q_5 k_6 H hK hH hS => ?_)
  have hK : va_K D vwCl [(k_2, .int), (k_4, .int), (k_6, .int)] s := hK
  have hH : sj_H D A ([(h0, .inr (8, [.ref q_1, .ref q_3, .null])), (q_1, .inl (k_2, 32, .inl (fun _ => 0))), (q_3, .inl (k_4, 32, .inl (fun _ => 0))), (q_5, .inl (k_6, 8, .inl (fun _ => 0)))] ++ []) H := hH
  refine sj_putF (D := D) (ci := 8) (v := .ref q_5) (ty := (.array .int)) (C := RX8) (F := TX8) (N := 3) hx hb hts in8 tyX8 tyX8_ok nmX8 hown hK hH hS 0 rfl rfl 2 (by decide) wd6 (fun _ h9 => h9) rfl hnm rfl (by decide +kernel) rfl rfl (Nat.le_of_ble_eq_true rfl) dX8_init_25 (fun H locs (hH : sj_H D A ([(h0, .inr (8, [.ref q_1, .ref q_3, .ref q_5])), (q_1, .inl (k_2, 32, .inl (fun _ => 0))), (q_3, .inl (k_4, 32, .inl (fun _ => 0))), (q_5, .inl (k_6, 8, .inl (fun _ => 0)))] ++ []) H) hS => ?_)
  exact sj_vret hx hb hr hlocks hS (q_1, q_3, q_5, k_2, k_4, k_6) trivial (sj_sub hH [0, 1, 2, 3] rfl rfl) (hK.sub [0, 1, 2] rfl) (Nat.le_of_ble_eq_true rfl) (Nat.le_of_ble_eq_true rfl) dX8_init_28
