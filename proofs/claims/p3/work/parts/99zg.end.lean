set_option maxRecDepth 100000 in
def tbE : List Cond := [.arrayOver (.object RX0), .arrayOver (.object RX2), .arrayOver (.object RX4), .arrayOver (.object RX6), .arrayOver (.object RX9), .arrayOver (.object RX10), .methodLinkNest RX1 33 yX0_init "StoryDesk", .methodLinkNest RX5 33 yX4_init "StoryDesk", .laysStatic Bundle.tN "UNASSIGNED_STACK" Bundle.steD, .laysStatic Bundle.tN "SUPPRESSED_SENTINEL" Bundle.listD, .laysStatic "java/lang/String" "COMPACT_STRINGS" "Z", .laysStatic "StoryDesk$Reading" "MAY_COME" "[I", .initialized Bundle.tN, .initialized "java/lang/String", .initialized "StoryDesk$Reading", .castable "java/lang/IllegalStateException" "java/lang/IllegalStateException", .castable "java/lang/IndexOutOfBoundsException" "java/lang/IndexOutOfBoundsException", .castable "java/lang/IllegalArgumentException" "java/lang/IllegalArgumentException", .castable "java/lang/UnsupportedOperationException" "java/lang/UnsupportedOperationException", .declares (Bundle.init0 "java/lang/RuntimeException"), .declares (Bundle.init0 "java/lang/Exception"), .declares (Bundle.init0 Bundle.tN), .stringRef RX2 81 "idws", .stringRef RX5 139 "PQHCX", .stringRef RX5 141 "FRBSE", .stringRef RX5 148 "DNZU*", .stringRef RX5 150 "GWTA*"]
set_option maxRecDepth 100000 in
theorem tbE_in : ∀ w ∈ tbE, w ∈ lw_tbl := sj_mem_r _ [343, 497, 189, 239, 542, 415, 345, 191, 903, 905, 983, 1059, 134, 139, 123, 878, 1116, 1179, 1194, 879, 881, 883, 1150, 968, 969, 1052, 1053] (by decide +kernel)
set_option maxRecDepth 100000 in
def nwE : List Cond := [.isRef (.static Bundle.tN "UNASSIGNED_STACK" Bundle.steD), .isRef (.static Bundle.tN "SUPPRESSED_SENTINEL" Bundle.listD), .eq (.static "java/lang/String" "COMPACT_STRINGS" "Z") (.int 1), .arrayOf (.static "StoryDesk$Reading" "MAY_COME" "[I") .int, .eq (.length (.static "StoryDesk$Reading" "MAY_COME" "[I")) (.int 9), .eq (.elem (.static "StoryDesk$Reading" "MAY_COME" "[I") (.int 0)) (.int 10), .eq (.elem (.static "StoryDesk$Reading" "MAY_COME" "[I") (.int 1)) (.int 626), .eq (.elem (.static "StoryDesk$Reading" "MAY_COME" "[I") (.int 2)) (.int 850), .eq (.elem (.static "StoryDesk$Reading" "MAY_COME" "[I") (.int 3)) (.int 342), .eq (.elem (.static "StoryDesk$Reading" "MAY_COME" "[I") (.int 4)) (.int 978), .eq (.elem (.static "StoryDesk$Reading" "MAY_COME" "[I") (.int 5)) (.int 470), .eq (.elem (.static "StoryDesk$Reading" "MAY_COME" "[I") (.int 6)) (.int 726), .eq (.elem (.static "StoryDesk$Reading" "MAY_COME" "[I") (.int 7)) (.int 214), .eq (.elem (.static "StoryDesk$Reading" "MAY_COME" "[I") (.int 8)) (.int 626), .not (.castable "java/lang/IllegalArgumentException" "java/lang/IllegalStateException"), .not (.castable "java/lang/UnsupportedOperationException" "java/lang/IllegalStateException"), .not (.castable "java/lang/UnsupportedOperationException" "java/lang/IllegalArgumentException"), .not (.castable "java/lang/UnsupportedOperationException" "java/lang/IndexOutOfBoundsException"), .exactly (.string "StoryDesk$Expression" 81) "java/lang/String", .eq (.field (.string "StoryDesk$Expression" 81) "java/lang/String" "coder" "B") (.int 0), .arrayOf (.field (.string "StoryDesk$Expression" 81) "java/lang/String" "value" "[B") .byte, .eq (.length (.field (.string "StoryDesk$Expression" 81) "java/lang/String" "value" "[B")) (.int 4), .eq (.elem (.field (.string "StoryDesk$Expression" 81) "java/lang/String" "value" "[B") (.int 0)) (.int 105), .eq (.elem (.field (.string "StoryDesk$Expression" 81) "java/lang/String" "value" "[B") (.int 1)) (.int 100), .eq (.elem (.field (.string "StoryDesk$Expression" 81) "java/lang/String" "value" "[B") (.int 2)) (.int 119), .eq (.elem (.field (.string "StoryDesk$Expression" 81) "java/lang/String" "value" "[B") (.int 3)) (.int 115), .exactly (.string "StoryDesk$Reading" 139) "java/lang/String", .eq (.field (.string "StoryDesk$Reading" 139) "java/lang/String" "coder" "B") (.int 0), .arrayOf (.field (.string "StoryDesk$Reading" 139) "java/lang/String" "value" "[B") .byte, .eq (.length (.field (.string "StoryDesk$Reading" 139) "java/lang/String" "value" "[B")) (.int 5), .eq (.elem (.field (.string "StoryDesk$Reading" 139) "java/lang/String" "value" "[B") (.int 0)) (.int 80), .eq (.elem (.field (.string "StoryDesk$Reading" 139) "java/lang/String" "value" "[B") (.int 1)) (.int 81), .eq (.elem (.field (.string "StoryDesk$Reading" 139) "java/lang/String" "value" "[B") (.int 2)) (.int 72), .eq (.elem (.field (.string "StoryDesk$Reading" 139) "java/lang/String" "value" "[B") (.int 3)) (.int 67), .eq (.elem (.field (.string "StoryDesk$Reading" 139) "java/lang/String" "value" "[B") (.int 4)) (.int 88), .exactly (.string "StoryDesk$Reading" 141) "java/lang/String", .eq (.field (.string "StoryDesk$Reading" 141) "java/lang/String" "coder" "B") (.int 0), .arrayOf (.field (.string "StoryDesk$Reading" 141) "java/lang/String" "value" "[B") .byte, .eq (.length (.field (.string "StoryDesk$Reading" 141) "java/lang/String" "value" "[B")) (.int 5), .eq (.elem (.field (.string "StoryDesk$Reading" 141) "java/lang/String" "value" "[B") (.int 0)) (.int 70), .eq (.elem (.field (.string "StoryDesk$Reading" 141) "java/lang/String" "value" "[B") (.int 1)) (.int 82), .eq (.elem (.field (.string "StoryDesk$Reading" 141) "java/lang/String" "value" "[B") (.int 2)) (.int 66), .eq (.elem (.field (.string "StoryDesk$Reading" 141) "java/lang/String" "value" "[B") (.int 3)) (.int 83), .eq (.elem (.field (.string "StoryDesk$Reading" 141) "java/lang/String" "value" "[B") (.int 4)) (.int 69), .exactly (.string "StoryDesk$Reading" 148) "java/lang/String", .eq (.field (.string "StoryDesk$Reading" 148) "java/lang/String" "coder" "B") (.int 0), .arrayOf (.field (.string "StoryDesk$Reading" 148) "java/lang/String" "value" "[B") .byte, .eq (.length (.field (.string "StoryDesk$Reading" 148) "java/lang/String" "value" "[B")) (.int 5), .eq (.elem (.field (.string "StoryDesk$Reading" 148) "java/lang/String" "value" "[B") (.int 0)) (.int 68), .eq (.elem (.field (.string "StoryDesk$Reading" 148) "java/lang/String" "value" "[B") (.int 1)) (.int 78), .eq (.elem (.field (.string "StoryDesk$Reading" 148) "java/lang/String" "value" "[B") (.int 2)) (.int 90), .eq (.elem (.field (.string "StoryDesk$Reading" 148) "java/lang/String" "value" "[B") (.int 3)) (.int 85), .eq (.elem (.field (.string "StoryDesk$Reading" 148) "java/lang/String" "value" "[B") (.int 4)) (.int 42), .exactly (.string "StoryDesk$Reading" 150) "java/lang/String", .eq (.field (.string "StoryDesk$Reading" 150) "java/lang/String" "coder" "B") (.int 0), .arrayOf (.field (.string "StoryDesk$Reading" 150) "java/lang/String" "value" "[B") .byte, .eq (.length (.field (.string "StoryDesk$Reading" 150) "java/lang/String" "value" "[B")) (.int 5), .eq (.elem (.field (.string "StoryDesk$Reading" 150) "java/lang/String" "value" "[B") (.int 0)) (.int 71), .eq (.elem (.field (.string "StoryDesk$Reading" 150) "java/lang/String" "value" "[B") (.int 1)) (.int 87), .eq (.elem (.field (.string "StoryDesk$Reading" 150) "java/lang/String" "value" "[B") (.int 2)) (.int 84), .eq (.elem (.field (.string "StoryDesk$Reading" 150) "java/lang/String" "value" "[B") (.int 3)) (.int 65), .eq (.elem (.field (.string "StoryDesk$Reading" 150) "java/lang/String" "value" "[B") (.int 4)) (.int 42), .not (.eq (.string "StoryDesk$Reading" 139) (.string "StoryDesk$Expression" 81)), .not (.eq (.string "StoryDesk$Reading" 139) (.string "StoryDesk$Reading" 141)), .not (.eq (.string "StoryDesk$Reading" 139) (.string "StoryDesk$Reading" 148)), .not (.eq (.string "StoryDesk$Reading" 139) (.string "StoryDesk$Reading" 150)), .not (.eq (.string "StoryDesk$Reading" 141) (.string "StoryDesk$Expression" 81)), .not (.eq (.string "StoryDesk$Reading" 141) (.string "StoryDesk$Reading" 148)), .not (.eq (.string "StoryDesk$Reading" 141) (.string "StoryDesk$Reading" 150)), .not (.eq (.string "StoryDesk$Reading" 148) (.string "StoryDesk$Expression" 81)), .not (.eq (.string "StoryDesk$Reading" 148) (.string "StoryDesk$Reading" 150)), .not (.eq (.string "StoryDesk$Reading" 150) (.string "StoryDesk$Expression" 81))]
set_option maxRecDepth 100000 in
theorem nwE_in : ∀ w ∈ nwE, w ∈ flatC (Jvm.Cond.and given_1 narrow_1) := sj_mem_r _ [4, 5, 6, 12, 13, 14, 15, 16, 17, 18, 19, 20, 21, 22, 37, 38, 70, 54, 129, 130, 131, 132, 133, 134, 135, 136, 87, 88, 89, 90, 91, 92, 93, 94, 95, 96, 97, 98, 99, 100, 101, 102, 103, 104, 106, 107, 108, 109, 110, 111, 112, 113, 114, 117, 118, 119, 120, 121, 122, 123, 124, 125, 137, 105, 115, 126, 138, 116, 127, 139, 128, 140] (by decide +kernel)
def tmS (i : Nat) : Term := ([.string "StoryDesk$Expression" 81, .string "StoryDesk$Reading" 139, .string "StoryDesk$Reading" 141, .string "StoryDesk$Reading" 148, .string "StoryDesk$Reading" 150] : List Term).getD i (.int 0)
set_option maxHeartbeats 4000000 in
set_option maxRecDepth 100000 in
/-- the constant strings -/
theorem gs_str {s : State} {b : Nat} {A : Nat → Prop} (hNW : ∀ w ∈ nwE, w.before #[Value.ref b] s = true) (hnA : ∀ a : Nat, a < s.heap.size → ¬ A a) : ∃ adK adV : Nat → Nat, vk_S 5 jLen jByt adK adV A s s.heap ∧ ∀ i : Nat, i < 5 → (tmS i).eval #[Value.ref b] s none [] s = some (.ref (adK i)) := by
  refine vk_Sof (tm := tmS) ?_ ?_ ?_ ?_ ?_ ?_ ?_ hnA
  · intro i hi
    match i, hi with
    | 0, _ => exact (by decide)
    | 1, _ => exact (by decide)
    | 2, _ => exact (by decide)
    | 3, _ => exact (by decide)
    | 4, _ => exact (by decide)
    | n + 5, h => exact absurd h (by omega)
  · intro i hi
    match i, hi with
    | 0, _ => exact hNW _ (List.mem_of_getElem? (i := 18) rfl)
    | 1, _ => exact hNW _ (List.mem_of_getElem? (i := 26) rfl)
    | 2, _ => exact hNW _ (List.mem_of_getElem? (i := 35) rfl)
    | 3, _ => exact hNW _ (List.mem_of_getElem? (i := 44) rfl)
    | 4, _ => exact hNW _ (List.mem_of_getElem? (i := 53) rfl)
    | n + 5, h => exact absurd h (by omega)
  · intro i hi
    match i, hi with
    | 0, _ => exact hNW _ (List.mem_of_getElem? (i := 19) rfl)
    | 1, _ => exact hNW _ (List.mem_of_getElem? (i := 27) rfl)
    | 2, _ => exact hNW _ (List.mem_of_getElem? (i := 36) rfl)
    | 3, _ => exact hNW _ (List.mem_of_getElem? (i := 45) rfl)
    | 4, _ => exact hNW _ (List.mem_of_getElem? (i := 54) rfl)
    | n + 5, h => exact absurd h (by omega)
  · intro i hi
    match i, hi with
    | 0, _ => exact hNW _ (List.mem_of_getElem? (i := 20) rfl)
    | 1, _ => exact hNW _ (List.mem_of_getElem? (i := 28) rfl)
    | 2, _ => exact hNW _ (List.mem_of_getElem? (i := 37) rfl)
    | 3, _ => exact hNW _ (List.mem_of_getElem? (i := 46) rfl)
    | 4, _ => exact hNW _ (List.mem_of_getElem? (i := 55) rfl)
    | n + 5, h => exact absurd h (by omega)
  · intro i hi
    match i, hi with
    | 0, _ => exact hNW _ (List.mem_of_getElem? (i := 21) rfl)
    | 1, _ => exact hNW _ (List.mem_of_getElem? (i := 29) rfl)
    | 2, _ => exact hNW _ (List.mem_of_getElem? (i := 38) rfl)
    | 3, _ => exact hNW _ (List.mem_of_getElem? (i := 47) rfl)
    | 4, _ => exact hNW _ (List.mem_of_getElem? (i := 56) rfl)
    | n + 5, h => exact absurd h (by omega)
  · intro i hi j hj
    match i, j, hi, hj with
    | 0, 0, _, _ => exact hNW _ (List.mem_of_getElem? (i := 22) rfl)
    | 0, 1, _, _ => exact hNW _ (List.mem_of_getElem? (i := 23) rfl)
    | 0, 2, _, _ => exact hNW _ (List.mem_of_getElem? (i := 24) rfl)
    | 0, 3, _, _ => exact hNW _ (List.mem_of_getElem? (i := 25) rfl)
    | 0, n + 4, _, h => exact absurd (show n + 4 < 4 from h) (by omega)
    | 1, 0, _, _ => exact hNW _ (List.mem_of_getElem? (i := 30) rfl)
    | 1, 1, _, _ => exact hNW _ (List.mem_of_getElem? (i := 31) rfl)
    | 1, 2, _, _ => exact hNW _ (List.mem_of_getElem? (i := 32) rfl)
    | 1, 3, _, _ => exact hNW _ (List.mem_of_getElem? (i := 33) rfl)
    | 1, 4, _, _ => exact hNW _ (List.mem_of_getElem? (i := 34) rfl)
    | 1, n + 5, _, h => exact absurd (show n + 5 < 5 from h) (by omega)
    | 2, 0, _, _ => exact hNW _ (List.mem_of_getElem? (i := 39) rfl)
    | 2, 1, _, _ => exact hNW _ (List.mem_of_getElem? (i := 40) rfl)
    | 2, 2, _, _ => exact hNW _ (List.mem_of_getElem? (i := 41) rfl)
    | 2, 3, _, _ => exact hNW _ (List.mem_of_getElem? (i := 42) rfl)
    | 2, 4, _, _ => exact hNW _ (List.mem_of_getElem? (i := 43) rfl)
    | 2, n + 5, _, h => exact absurd (show n + 5 < 5 from h) (by omega)
    | 3, 0, _, _ => exact hNW _ (List.mem_of_getElem? (i := 48) rfl)
    | 3, 1, _, _ => exact hNW _ (List.mem_of_getElem? (i := 49) rfl)
    | 3, 2, _, _ => exact hNW _ (List.mem_of_getElem? (i := 50) rfl)
    | 3, 3, _, _ => exact hNW _ (List.mem_of_getElem? (i := 51) rfl)
    | 3, 4, _, _ => exact hNW _ (List.mem_of_getElem? (i := 52) rfl)
    | 3, n + 5, _, h => exact absurd (show n + 5 < 5 from h) (by omega)
    | 4, 0, _, _ => exact hNW _ (List.mem_of_getElem? (i := 57) rfl)
    | 4, 1, _, _ => exact hNW _ (List.mem_of_getElem? (i := 58) rfl)
    | 4, 2, _, _ => exact hNW _ (List.mem_of_getElem? (i := 59) rfl)
    | 4, 3, _, _ => exact hNW _ (List.mem_of_getElem? (i := 60) rfl)
    | 4, 4, _, _ => exact hNW _ (List.mem_of_getElem? (i := 61) rfl)
    | 4, n + 5, _, h => exact absurd (show n + 5 < 5 from h) (by omega)
    | n + 5, _, h, _ => exact absurd h (by omega)
  · intro i j hi hj hij
    match i, j, hi, hj, hij with
    | 0, 0, _, _, h => exact absurd rfl h
    | 0, 1, _, _, _ => exact Or.inr (hNW _ (List.mem_of_getElem? (i := 62) rfl))
    | 0, 2, _, _, _ => exact Or.inr (hNW _ (List.mem_of_getElem? (i := 66) rfl))
    | 0, 3, _, _, _ => exact Or.inr (hNW _ (List.mem_of_getElem? (i := 69) rfl))
    | 0, 4, _, _, _ => exact Or.inr (hNW _ (List.mem_of_getElem? (i := 71) rfl))
    | 1, 0, _, _, _ => exact Or.inl (hNW _ (List.mem_of_getElem? (i := 62) rfl))
    | 1, 1, _, _, h => exact absurd rfl h
    | 1, 2, _, _, _ => exact Or.inl (hNW _ (List.mem_of_getElem? (i := 63) rfl))
    | 1, 3, _, _, _ => exact Or.inl (hNW _ (List.mem_of_getElem? (i := 64) rfl))
    | 1, 4, _, _, _ => exact Or.inl (hNW _ (List.mem_of_getElem? (i := 65) rfl))
    | 2, 0, _, _, _ => exact Or.inl (hNW _ (List.mem_of_getElem? (i := 66) rfl))
    | 2, 1, _, _, _ => exact Or.inr (hNW _ (List.mem_of_getElem? (i := 63) rfl))
    | 2, 2, _, _, h => exact absurd rfl h
    | 2, 3, _, _, _ => exact Or.inl (hNW _ (List.mem_of_getElem? (i := 67) rfl))
    | 2, 4, _, _, _ => exact Or.inl (hNW _ (List.mem_of_getElem? (i := 68) rfl))
    | 3, 0, _, _, _ => exact Or.inl (hNW _ (List.mem_of_getElem? (i := 69) rfl))
    | 3, 1, _, _, _ => exact Or.inr (hNW _ (List.mem_of_getElem? (i := 64) rfl))
    | 3, 2, _, _, _ => exact Or.inr (hNW _ (List.mem_of_getElem? (i := 67) rfl))
    | 3, 3, _, _, h => exact absurd rfl h
    | 3, 4, _, _, _ => exact Or.inl (hNW _ (List.mem_of_getElem? (i := 70) rfl))
    | 4, 0, _, _, _ => exact Or.inl (hNW _ (List.mem_of_getElem? (i := 71) rfl))
    | 4, 1, _, _, _ => exact Or.inr (hNW _ (List.mem_of_getElem? (i := 65) rfl))
    | 4, 2, _, _, _ => exact Or.inr (hNW _ (List.mem_of_getElem? (i := 68) rfl))
    | 4, 3, _, _, _ => exact Or.inr (hNW _ (List.mem_of_getElem? (i := 70) rfl))
    | 4, 4, _, _, h => exact absurd rfl h
    | n + 5, _, h, _, _ => exact absurd h (by omega)
    | _, n + 5, _, h, _ => exact absurd h (by omega)
set_option maxHeartbeats 4000000 in
set_option maxRecDepth 100000 in
/-- what the calls want of the start -/
theorem gx_of {s : State} {b : Nat} {A : Nat → Prop} (hTB : ∀ w ∈ tbE, w.before #[Value.ref b] s = true) (hNW : ∀ w ∈ nwE, w.before #[Value.ref b] s = true) (hnA : ∀ a : Nat, a < s.heap.size → ¬ A a) : ∃ ad : Nat → Nat, gxh ad A s := by
  obtain ⟨adK, adV, hS1, hS2⟩ := gs_str hNW hnA
  obtain ⟨t9, ht, hT⟩ : ∃ t : Nat, (Term.static "StoryDesk$Reading" "MAY_COME" "[I").eval #[Value.ref b] s none [] s = some (.ref t) ∧ va_T .int t 9 (fun j => .int (jMay.getD j 0)) A s s.heap := by
    refine va_Tof (by decide) (hNW _ (List.mem_of_getElem? (i := 3) rfl)) (va_eqt (hNW _ (List.mem_of_getElem? (i := 4) rfl))) ?_ hnA
    intro j hj
    match j, hj with
    | 0, _ => exact va_eqt (hNW _ (List.mem_of_getElem? (i := 5) rfl))
    | 1, _ => exact va_eqt (hNW _ (List.mem_of_getElem? (i := 6) rfl))
    | 2, _ => exact va_eqt (hNW _ (List.mem_of_getElem? (i := 7) rfl))
    | 3, _ => exact va_eqt (hNW _ (List.mem_of_getElem? (i := 8) rfl))
    | 4, _ => exact va_eqt (hNW _ (List.mem_of_getElem? (i := 9) rfl))
    | 5, _ => exact va_eqt (hNW _ (List.mem_of_getElem? (i := 10) rfl))
    | 6, _ => exact va_eqt (hNW _ (List.mem_of_getElem? (i := 11) rfl))
    | 7, _ => exact va_eqt (hNW _ (List.mem_of_getElem? (i := 12) rfl))
    | 8, _ => exact va_eqt (hNW _ (List.mem_of_getElem? (i := 13) rfl))
    | n + 9, h => exact absurd h (by omega)
  have d4 := (hTB (.declares (Bundle.init0 "java/lang/RuntimeException")) (List.mem_of_getElem? (i := 19) rfl))
  have d5 := (hTB (.declares (Bundle.init0 "java/lang/Exception")) (List.mem_of_getElem? (i := 20) rfl))
  have d6 := (hTB (.declares (Bundle.init0 Bundle.tN)) (List.mem_of_getElem? (i := 21) rfl))
  refine ⟨fun n => if n < 5 then adK n else if n < 10 then adV (n - 5) else t9, ⟨⟨⟨?_, ?_⟩, ?_, ?_, hT, ?_, ?_⟩, ⟨?_, ?_, ?_, ?_, ?_⟩, ⟨?_, ?_, ?_, ?_⟩⟩, ?_, ?_, ?_, ?_⟩
  · intro i hi
    have e1 : (if i < 5 then adK i else if i < 10 then adV (i - 5) else t9) = adK i := if_pos hi
    have e2 : (if 5 + i < 5 then adK (5 + i) else if 5 + i < 10 then adV (5 + i - 5) else t9) = adV i := by rw [if_neg (by omega), if_pos (by omega), show 5 + i - 5 = i by omega]
    have h9 := hS1.1 i hi
    rw [← e1, ← e2] at h9
    exact h9
  · intro i j hi hj e
    have e9 : (if i < 5 then adK i else if i < 10 then adV (i - 5) else t9) = (if j < 5 then adK j else if j < 10 then adV (j - 5) else t9) := e
    rw [if_pos hi, if_pos hj] at e9
    exact hS1.2 i j hi hj e9
  · exact va_Zof (hTB (.laysStatic "java/lang/String" "COMPACT_STRINGS" "Z") (List.mem_of_getElem? (i := 10) rfl)) (hTB (.initialized "java/lang/String") (List.mem_of_getElem? (i := 13) rfl)) (va_eqt (hNW _ (List.mem_of_getElem? (i := 2) rfl))) hnA
  · exact va_Zref (hTB (.laysStatic "StoryDesk$Reading" "MAY_COME" "[I") (List.mem_of_getElem? (i := 11) rfl)) (hTB (.initialized "StoryDesk$Reading") (List.mem_of_getElem? (i := 14) rfl)) ht hnA
  · exact vx_Zqof (hTB (.laysStatic Bundle.tN "UNASSIGNED_STACK" Bundle.steD) (List.mem_of_getElem? (i := 8) rfl)) (hTB (.initialized Bundle.tN) (List.mem_of_getElem? (i := 12) rfl)) (hNW (.isRef (.static Bundle.tN "UNASSIGNED_STACK" Bundle.steD)) (List.mem_of_getElem? (i := 0) rfl)) hnA
  · exact vx_Zqof (hTB (.laysStatic Bundle.tN "SUPPRESSED_SENTINEL" Bundle.listD) (List.mem_of_getElem? (i := 9) rfl)) (hTB (.initialized Bundle.tN) (List.mem_of_getElem? (i := 12) rfl)) (hNW (.isRef (.static Bundle.tN "SUPPRESSED_SENTINEL" Bundle.listD)) (List.mem_of_getElem? (i := 1) rfl)) hnA
  · exact vk_R.of (hTB (.stringRef RX2 81 "idws") (List.mem_of_getElem? (i := 22) rfl)) (hS2 0 (by decide))
  · exact vk_R.of (hTB (.stringRef RX5 139 "PQHCX") (List.mem_of_getElem? (i := 23) rfl)) (hS2 1 (by decide))
  · exact vk_R.of (hTB (.stringRef RX5 141 "FRBSE") (List.mem_of_getElem? (i := 24) rfl)) (hS2 2 (by decide))
  · exact vk_R.of (hTB (.stringRef RX5 148 "DNZU*") (List.mem_of_getElem? (i := 25) rfl)) (hS2 3 (by decide))
  · exact vk_R.of (hTB (.stringRef RX5 150 "GWTA*") (List.mem_of_getElem? (i := 26) rfl)) (hS2 4 (by decide))
  · exact ⟨va_Nw.of rfl (hTB (.castable "java/lang/IllegalStateException" "java/lang/IllegalStateException") (List.mem_of_getElem? (i := 15) rfl)), va_Nw.of rfl d4, va_Nw.of rfl d5, va_Nw.of rfl d6⟩
  · exact ⟨va_Nw.of rfl (hTB (.castable "java/lang/IndexOutOfBoundsException" "java/lang/IndexOutOfBoundsException") (List.mem_of_getElem? (i := 16) rfl)), va_Nw.of rfl d4, va_Nw.of rfl d5, va_Nw.of rfl d6⟩
  · exact ⟨va_Nw.of rfl (hTB (.castable "java/lang/IllegalArgumentException" "java/lang/IllegalArgumentException") (List.mem_of_getElem? (i := 17) rfl)), va_Nw.of rfl d4, va_Nw.of rfl d5, va_Nw.of rfl d6⟩
  · exact ⟨va_Nw.of rfl (hTB (.castable "java/lang/UnsupportedOperationException" "java/lang/UnsupportedOperationException") (List.mem_of_getElem? (i := 18) rfl)), va_Nw.of rfl d4, va_Nw.of rfl d5, va_Nw.of rfl d6⟩
  · exact va_Nc.of ((hNW (.not (.castable "java/lang/IllegalArgumentException" "java/lang/IllegalStateException")) (List.mem_of_getElem? (i := 14) rfl)))
  · exact va_Nc.of ((hNW (.not (.castable "java/lang/UnsupportedOperationException" "java/lang/IllegalStateException")) (List.mem_of_getElem? (i := 15) rfl)))
  · exact va_Nc.of ((hNW (.not (.castable "java/lang/UnsupportedOperationException" "java/lang/IllegalArgumentException")) (List.mem_of_getElem? (i := 16) rfl)))
  · exact va_Nc.of ((hNW (.not (.castable "java/lang/UnsupportedOperationException" "java/lang/IndexOutOfBoundsException")) (List.mem_of_getElem? (i := 17) rfl)))
set_option maxRecDepth 100000 in
/-- what the tables say of the classes -/
theorem sj_kn {s : State} {args : Array Value} (hts : ∀ w ∈ wsL_law, w.before args s = true) : ∃ D : va_G, va_K D vwCl [] s := by
  have hk : ∀ c : Nat, ∃ (cC : ClassId) (iS : Nat → Nat), ∀ q, vwCl[c]? = some q → u_Kn s q.1 q.2.1 q.2.2 cC iS := by
    have k0 := u_known (C := RX0) (T := TX0) (N := 5) hts inlX0 (hts (.instantiable RX0 5) (List.mem_append_left _ (List.mem_append_left _ (List.mem_append_left _ (List.mem_append_left _ (List.mem_append_left _ (List.mem_append_left _ (List.mem_append_left _ (List.mem_append_left _ (List.mem_append_left _ (List.mem_append_left _ (List.mem_append_left _ (List.mem_append_left _ (List.mem_append_left _ (List.mem_append_left _ (List.mem_append_left _ (List.mem_append_left _ (List.mem_append_left _ (List.mem_append_left _ (List.mem_append_right _ (List.mem_append_right _ (List.mem_append_right _ (List.mem_append_right _ (List.mem_append_left _ lm0))))))))))))))))))))))))
    have k1 := u_known (C := RX1) (T := TX1) (N := 5) hts inlX1 (hts (.instantiable RX1 5) (List.mem_append_left _ (List.mem_append_left _ (List.mem_append_left _ (List.mem_append_left _ (List.mem_append_left _ (List.mem_append_left _ (List.mem_append_left _ (List.mem_append_left _ (List.mem_append_left _ (List.mem_append_left _ (List.mem_append_left _ (List.mem_append_left _ (List.mem_append_left _ (List.mem_append_left _ (List.mem_append_left _ (List.mem_append_left _ (List.mem_append_left _ (List.mem_append_left _ (List.mem_append_left _ lm23))))))))))))))))))))
    have k2 := u_known (C := RX2) (T := TX2) (N := 11) hts inlX2 (hts (.instantiable RX2 11) (List.mem_append_left _ (List.mem_append_left _ (List.mem_append_left _ (List.mem_append_left _ (List.mem_append_left _ (List.mem_append_left _ (List.mem_append_left _ (List.mem_append_left _ (List.mem_append_left _ (List.mem_append_left _ (List.mem_append_left _ (List.mem_append_left _ (List.mem_append_left _ (List.mem_append_left _ (List.mem_append_left _ (List.mem_append_left _ (List.mem_append_left _ (List.mem_append_left _ (List.mem_append_right _ (List.mem_append_left _ lm12)))))))))))))))))))))
    have k3 := u_known (C := RX3) (T := TX3) (N := 2) hts inlX3 (hts (.instantiable RX3 2) (List.mem_append_left _ (List.mem_append_left _ (List.mem_append_left _ (List.mem_append_left _ (List.mem_append_left _ (List.mem_append_left _ (List.mem_append_left _ (List.mem_append_left _ (List.mem_append_left _ (List.mem_append_left _ (List.mem_append_left _ (List.mem_append_left _ (List.mem_append_left _ (List.mem_append_left _ (List.mem_append_left _ (List.mem_append_left _ (List.mem_append_left _ (List.mem_append_left _ (List.mem_append_left _ lm15))))))))))))))))))))
    have k4 := u_known (C := RX4) (T := TX4) (N := 9) hts inlX4 (hts (.instantiable RX4 9) (List.mem_append_left _ (List.mem_append_left _ (List.mem_append_left _ (List.mem_append_left _ (List.mem_append_left _ (List.mem_append_left _ (List.mem_append_left _ (List.mem_append_left _ (List.mem_append_left _ (List.mem_append_left _ (List.mem_append_left _ (List.mem_append_left _ (List.mem_append_left _ (List.mem_append_left _ (List.mem_append_left _ (List.mem_append_left _ (List.mem_append_left _ (List.mem_append_left _ (List.mem_append_right _ (List.mem_append_right _ (List.mem_append_left _ lm17))))))))))))))))))))))
    have k5 := u_known (C := RX5) (T := TX5) (N := 19) hts inlX5 (hts (.instantiable RX5 19) (List.mem_append_left _ (List.mem_append_left _ (List.mem_append_left _ (List.mem_append_left _ (List.mem_append_left _ (List.mem_append_left _ (List.mem_append_left _ (List.mem_append_left _ (List.mem_append_left _ (List.mem_append_left _ (List.mem_append_left _ (List.mem_append_left _ (List.mem_append_left _ (List.mem_append_left _ (List.mem_append_left _ (List.mem_append_left _ (List.mem_append_left _ (List.mem_append_left _ (List.mem_append_left _ lm19))))))))))))))))))))
    have k6 := u_known (C := RX6) (T := TX6) (N := 4) hts inlX6 (hts (.instantiable RX6 4) (List.mem_append_left _ (List.mem_append_left _ (List.mem_append_left _ (List.mem_append_left _ (List.mem_append_left _ (List.mem_append_left _ (List.mem_append_left _ (List.mem_append_left _ (List.mem_append_left _ (List.mem_append_left _ (List.mem_append_left _ (List.mem_append_left _ (List.mem_append_left _ (List.mem_append_left _ (List.mem_append_left _ (List.mem_append_left _ (List.mem_append_left _ (List.mem_append_left _ (List.mem_append_right _ (List.mem_append_right _ (List.mem_append_right _ (List.mem_append_left _ lm0)))))))))))))))))))))))
    have k7 := u_known (C := RX7) (T := TX7) (N := 11) hts inlX7 (hts (.instantiable RX7 11) (List.mem_append_left _ (List.mem_append_left _ (List.mem_append_left _ (List.mem_append_left _ (List.mem_append_left _ (List.mem_append_left _ (List.mem_append_left _ (List.mem_append_left _ (List.mem_append_left _ (List.mem_append_left _ (List.mem_append_left _ (List.mem_append_left _ (List.mem_append_left _ (List.mem_append_left _ (List.mem_append_left _ (List.mem_append_left _ (List.mem_append_left _ (List.mem_append_left _ (List.mem_append_right _ (List.mem_append_left _ lm7)))))))))))))))))))))
    have k8 := u_known (C := RX8) (T := TX8) (N := 3) hts inlX8 (hts (.instantiable RX8 3) (List.mem_append_left _ (List.mem_append_left _ (List.mem_append_left _ (List.mem_append_left _ (List.mem_append_left _ (List.mem_append_left _ (List.mem_append_left _ (List.mem_append_left _ (List.mem_append_left _ (List.mem_append_left _ (List.mem_append_left _ (List.mem_append_left _ (List.mem_append_left _ (List.mem_append_left _ (List.mem_append_left _ (List.mem_append_left _ (List.mem_append_left _ (List.mem_append_left _ (List.mem_append_right _ (List.mem_append_left _ lm3)))))))))))))))))))))
    have k9 := u_known (C := RX9) (T := TX9) (N := 4) hts inlX9 (hts (.instantiable RX9 4) (List.mem_append_left _ (List.mem_append_left _ (List.mem_append_left _ (List.mem_append_left _ (List.mem_append_left _ (List.mem_append_left _ (List.mem_append_left _ (List.mem_append_left _ (List.mem_append_left _ (List.mem_append_left _ (List.mem_append_left _ (List.mem_append_left _ (List.mem_append_left _ (List.mem_append_left _ (List.mem_append_left _ (List.mem_append_left _ (List.mem_append_left _ (List.mem_append_left _ (List.mem_append_right _ (List.mem_append_left _ lm18)))))))))))))))))))))
    have k10 := u_known (C := RX10) (T := TX10) (N := 8) hts inlX10 (hts (.instantiable RX10 8) (List.mem_append_left _ (List.mem_append_left _ (List.mem_append_left _ (List.mem_append_left _ (List.mem_append_left _ (List.mem_append_left _ (List.mem_append_left _ (List.mem_append_left _ (List.mem_append_left _ (List.mem_append_left _ (List.mem_append_left _ (List.mem_append_left _ (List.mem_append_left _ (List.mem_append_left _ (List.mem_append_left _ (List.mem_append_left _ (List.mem_append_left _ (List.mem_append_left _ (List.mem_append_right _ (List.mem_append_right _ (List.mem_append_right _ (List.mem_append_right _ (List.mem_append_left _ lm19))))))))))))))))))))))))
    have k11 := u_known (C := RX11) (T := TX11) (N := 14) hts inlX11 (hts (.instantiable RX11 14) (List.mem_append_left _ (List.mem_append_left _ (List.mem_append_left _ (List.mem_append_left _ (List.mem_append_left _ (List.mem_append_left _ (List.mem_append_left _ (List.mem_append_left _ (List.mem_append_left _ (List.mem_append_left _ (List.mem_append_left _ (List.mem_append_left _ (List.mem_append_left _ (List.mem_append_left _ (List.mem_append_left _ (List.mem_append_left _ (List.mem_append_left _ (List.mem_append_left _ (List.mem_append_left _ lm1))))))))))))))))))))
    have k12 := u_known (C := RX12) (T := TX12) (N := 86) hts inlX12 (hts (.instantiable RX12 86) (List.mem_append_left _ (List.mem_append_left _ (List.mem_append_left _ (List.mem_append_left _ (List.mem_append_left _ (List.mem_append_left _ (List.mem_append_left _ (List.mem_append_left _ (List.mem_append_left _ (List.mem_append_left _ (List.mem_append_left _ (List.mem_append_left _ (List.mem_append_left _ (List.mem_append_left _ (List.mem_append_left _ (List.mem_append_left _ (List.mem_append_left _ (List.mem_append_left _ (List.mem_append_left _ lm4))))))))))))))))))))
    intro c
    match c with
    | 0 => obtain ⟨a, i, h⟩ := k0; exact ⟨a, i, fun q hq => by have e9 : some (RX0, TX0, 5) = some q := hq; cases e9; exact h⟩
    | 1 => obtain ⟨a, i, h⟩ := k1; exact ⟨a, i, fun q hq => by have e9 : some (RX1, TX1, 5) = some q := hq; cases e9; exact h⟩
    | 2 => obtain ⟨a, i, h⟩ := k2; exact ⟨a, i, fun q hq => by have e9 : some (RX2, TX2, 11) = some q := hq; cases e9; exact h⟩
    | 3 => obtain ⟨a, i, h⟩ := k3; exact ⟨a, i, fun q hq => by have e9 : some (RX3, TX3, 2) = some q := hq; cases e9; exact h⟩
    | 4 => obtain ⟨a, i, h⟩ := k4; exact ⟨a, i, fun q hq => by have e9 : some (RX4, TX4, 9) = some q := hq; cases e9; exact h⟩
    | 5 => obtain ⟨a, i, h⟩ := k5; exact ⟨a, i, fun q hq => by have e9 : some (RX5, TX5, 19) = some q := hq; cases e9; exact h⟩
    | 6 => obtain ⟨a, i, h⟩ := k6; exact ⟨a, i, fun q hq => by have e9 : some (RX6, TX6, 4) = some q := hq; cases e9; exact h⟩
    | 7 => obtain ⟨a, i, h⟩ := k7; exact ⟨a, i, fun q hq => by have e9 : some (RX7, TX7, 11) = some q := hq; cases e9; exact h⟩
    | 8 => obtain ⟨a, i, h⟩ := k8; exact ⟨a, i, fun q hq => by have e9 : some (RX8, TX8, 3) = some q := hq; cases e9; exact h⟩
    | 9 => obtain ⟨a, i, h⟩ := k9; exact ⟨a, i, fun q hq => by have e9 : some (RX9, TX9, 4) = some q := hq; cases e9; exact h⟩
    | 10 => obtain ⟨a, i, h⟩ := k10; exact ⟨a, i, fun q hq => by have e9 : some (RX10, TX10, 8) = some q := hq; cases e9; exact h⟩
    | 11 => obtain ⟨a, i, h⟩ := k11; exact ⟨a, i, fun q hq => by have e9 : some (RX11, TX11, 14) = some q := hq; cases e9; exact h⟩
    | 12 => obtain ⟨a, i, h⟩ := k12; exact ⟨a, i, fun q hq => by have e9 : some (RX12, TX12, 86) = some q := hq; cases e9; exact h⟩
    | n + 13 => obtain ⟨a, i, h⟩ := k0; exact ⟨a, i, fun q hq => by rw [List.getElem?_eq_none (show vwCl.length ≤ n + 13 from Nat.le_add_left 13 n)] at hq; cases hq⟩
  exact ⟨(fun c => (hk c).choose, fun c => (hk c).choose_spec.choose), fun c q hq => (hk c).choose_spec.choose_spec q hq, fun k q h => by simp at h⟩
set_option maxHeartbeats 4000000 in
set_option maxRecDepth 100000 in
theorem whole_start {p : Program} {e : Env} {s : State} {m : MethodId} {below : List Frame} {meth : Method} {c : Code} (l : Launch) (hl0 : l.stackTraces = false) {b L : Nat} {xs : Nat → Int32} (hL : L ≤ 3072) (C0 : lw_At p s m meth c b L xs) : W p l e room_1 s m #[Value.ref b] below meth c s.heap [] 0 0 (lw_Z below #[Value.ref b] s) (entryFrame m ([Value.ref b] : List Value).toArray 9) := by
  obtain ⟨hx, hb, hr, hml, hown, htb, hX, hbl, hlocks, hgv⟩ := C0
  have hgs := flat_of_before _ hgv
  have hTB : ∀ w ∈ tbE, w.before #[Value.ref b] s = true := fun w h => htb w (tbE_in w h)
  have hNW : ∀ w ∈ nwE, w.before #[Value.ref b] s = true := fun w h => hgs w (nwE_in w h)
  have hts : ∀ w ∈ wsL_law, w.before #[Value.ref b] s = true := fun w h => htb w (wsL_law_in w h)
  obtain ⟨D, hK⟩ := sj_kn hts
  obtain ⟨A, hAd⟩ : ∃ A : Nat → Prop, A = fun q => s.heap.size ≤ q := ⟨_, rfl⟩
  have hA : ∀ q, s.heap.size ≤ q → A q := by rw [hAd]; exact fun q h => h
  have hnA : ∀ a : Nat, a < s.heap.size → ¬ A a := by rw [hAd]; exact fun q h => Nat.not_le.mpr h
  obtain ⟨ad, hE⟩ := gx_of (A := A) hTB hNW hnA
  have hE0 : sj_xc s := ⟨sj_ao (hTB (.arrayOver (.object RX0)) (List.mem_of_getElem? (i := 0) rfl)), sj_ao (hTB (.arrayOver (.object RX2)) (List.mem_of_getElem? (i := 1) rfl)), sj_ao (hTB (.arrayOver (.object RX4)) (List.mem_of_getElem? (i := 2) rfl)), sj_ao (hTB (.arrayOver (.object RX6)) (List.mem_of_getElem? (i := 3) rfl)), sj_ao (hTB (.arrayOver (.object RX9)) (List.mem_of_getElem? (i := 4) rfl)), sj_ao (hTB (.arrayOver (.object RX10)) (List.mem_of_getElem? (i := 5) rfl)), va_Nw.of rfl (hTB (.methodLinkNest RX1 33 yX0_init "StoryDesk") (List.mem_of_getElem? (i := 6) rfl)), va_Nw.of rfl (hTB (.methodLinkNest RX5 33 yX4_init "StoryDesk") (List.mem_of_getElem? (i := 7) rfl))⟩
  have hl := lv_entry [Value.ref b] (n := 9) (Nat.le_of_ble_eq_true rfl)
  rw [lg_entry_eq]
  refine lw_s0 hx hb hr hlocks hml hown hts (hnA b hbl) hA hE0 hK hl (fun g ka H locs ls hH hK hS hl => ?_)
  exact lw_loop hl0 hx hb hr hlocks hml hown hts hX hbl (hnA b hbl) hA hE hK hAd hL L i00 r00 L00 d00 H locs ls 0 0 (by omega) rfl (by omega) LRX_00 hH hS hl
set_option maxHeartbeats 4000000 in
theorem lw_walk (l : Launch) (hl0 : l.stackTraces = false) (b : Addr) (xs : List Int32) : MetFree l x (headSpec (Jvm.Cond.code x code maxLocals ret :: tables_1) room_1) (lw_P b xs) (fun _ _ _ _ _ => True) lw_Q := by
  refine MetFree.of_bodyS (code := code) (maxLocals := maxLocals) (ret := ret) (by decide) ?_ ?_
  · intro args s m h hn
    obtain ⟨meth, c, h1, h2, h3, h4, h5, h6, -, -⟩ := Cond.code_spec hn (atoms_spec (ws := Jvm.Cond.code x code maxLocals ret :: tables_1) h _ List.mem_cons_self)
    exact ⟨meth, c, h1, h2, h3, h4, h5, h6⟩
  · intro p e s m args below meth c s₁ B hml0 hP _
    obtain ⟨rfl, hx, hbd, hgv⟩ := hP
    obtain ⟨scr, harrAt, hlist, hof, hsmall⟩ := hx
    obtain ⟨hcb, hkn, -, -⟩ := State.arrayAt?_spec harrAt
    have hown : s.vm.findClass R_law = some m.cls := findClass_of_methodNamed B.named
    have hts0 : ∀ c ∈ (Jvm.Cond.code x code maxLocals ret :: tables_1), c.before #[Value.ref b] s = true := atoms_spec (ws := Jvm.Cond.code x code maxLocals ret :: tables_1) B.pre
    have hts : ∀ w ∈ lw_tbl, w.before #[Value.ref b] s = true := k2_hts_sels lw_privs (fun w hw => hts0 w (List.mem_cons_of_mem _ hw)) lw_privs_ok
    have hml : c.maxLocals = 9 := B.maxLocals_eq (hts0 _ List.mem_cons_self)
    have X₀ : Stand p l e room_1 s m #[Value.ref b] below meth c s₁ [] 0 0 := Stand.of_body B
    have hh0 : s₁.heap = s.heap := by rw [B.state]; rfl
    have hsz : scr.slots.size = xs.length := by rw [← Array.length_toList, hlist, List.length_map]
    have hval : ∀ j : Nat, j < xs.length → scr.slots[j]? = some (.int (xs.getD j 0)) := fun j hj => by
      rw [← Array.getElem?_toList, hlist]
      simp [hj]
    have hbl : b < s.heap.size := (Array.getElem?_eq_some_iff.mp hcb).1
    have hX : va_X b xs.length (fun j => xs.getD j 0) s s.heap := ⟨scr, hcb, hof, hkn, hsz, hval⟩
    have K : W p l e room_1 s m #[Value.ref b] below meth c s₁.heap [] 0 0 (lw_Z below #[Value.ref b] s) (entryFrame m ([Value.ref b] : List Value).toArray 9) := by
      rw [hh0]
      exact whole_start l hl0 hbd ⟨B.exec, B.bytes, B.returns, hml, hown, hts, hX, hbl, B.notSynchronized, hgv⟩
    obtain ⟨t, a1, o, b1, b2, b3⟩ := K s₁ rfl X₀
    exact ⟨t, o, a1, b1, b2, b3⟩
theorem lw_pre_spec {args : Array Value} {s : State} (h : (Jvm.Cond.and given_1 narrow_1).before args s = true) (hr : rest_1_c.before args s = true) : ∃ (b : Addr) (xs : List Int32), lw_P b xs args s := by
  have hs := flat_of_before _ h
  have hq := flat_of_before _ hr
  have hc : (Cond.count 1).before args s = true := hs _ (by decide +kernel)
  have harr : (Cond.arrayOf (.arg 0) .int).before args s = true := hs _ (by decide +kernel)
  have hle : (Cond.le (.length (.arg 0)) (.int 3072)).before args s = true := hs _ (by decide +kernel)
  have hlen : (Cond.isInt (.length (.arg 0))).before args s = true := hq _ (by decide +kernel)
  have hall : (Cond.all (.arg 0) (.isInt (.elem (.arg 0) (.index 0)))).before args s = true := hq _ (by decide +kernel)
  obtain ⟨b, xs, hb, hx⟩ := State.ints_of_pre rfl harr hlen hall
  have hsm : xs.length < 2 ^ 31 := hx.choose_spec.2.2.2
  have hev : (Term.length (.arg 0)).eval args s none [] s = some (.int xs.length.toInt32) := hx.length_eval hb
  have hv := Cond.le_ints hev (show (Term.int 3072).eval args s none [] s = some (.int 3072) from rfl)
  have hd : xs.length.toInt32 ≤ 3072 := by
    simpa [Cond.before, Cond.holds, hv] using hle
  have hN : xs.length ≤ 3072 := (Int32.ofNat_le_ofNat hsm (by decide)).mp (show Int32.ofNat xs.length ≤ Int32.ofNat 3072 from hd)
  exact ⟨b, xs, Cond.one_arg hc (show args[0]? = some (.ref b) from hb), hx, hN, h⟩
theorem lw_comes (l : Launch) (hl0 : l.stackTraces = false) : Comes l x (Jvm.Cond.code x code maxLocals ret :: tables_1) room_1 (fun tb e args s => Calls_1 tb e args s ∧ rest_1 tb e args s ∧ Pre_1 tb e args s)
    (fun _ _ args s o t => lw_Q args s o t) := by
  intro p e ha hc hk s m args below hf hfit hheap happ hpre
  obtain ⟨b, xs, hP⟩ := lw_pre_spec hpre.2.2 hpre.2.1
  obtain ⟨k, o, h1, h2, h3, hQ⟩ := lw_walk l hl0 b xs p e ha hc hk s m args below hf ((Spec.applies_iff_loose hf).mp happ).1 hP trivial
  exact ⟨k, o, h1, h2, h3, hQ⟩
theorem lw_frame {s t : State} {o : Outcome} {args : Array Value} (h : Framed s o t [] 601024 7293034) :
    Framed s o t (fieldLocs frame_1_writes args s ++ arrayLocs frame_1_arrays args s ++ staticLocs frame_1_statics s) 601024 7293034 := h
theorem lw_limb (L : Cond) (hL : ∀ (args : Array Value) (s t : State), L.after args s (.returned (some (.int 1))) t = true) :
    ArmFor flags0 classFile x code maxLocals ret World_1 tables_1 room_1 Calls_1 rest_1 Pre_1
      (fun tb e a s o t => postC L tb e a s o t ∧ Framed s o t (fieldLocs frame_1_writes a s ++ arrayLocs frame_1_arrays a s ++ staticLocs frame_1_statics s) 601024 7293034) := by
  intro l hfl _ _
  have hl0 : l.stackTraces = false := by unfold Launch.stackTraces; rw [hfl]; decide +kernel
  intro p e ha hc hk s m args below hf hfit hheap happ hpre
  obtain ⟨k, o, h1, h2, h3, rfl, hF⟩ := lw_comes l hl0 p e ha hc hk s m args below hf hfit hheap happ hpre
  exact ⟨k, _, h1, h2, h3, hL args s _, lw_frame hF⟩
theorem i_vc : Claimed_1_1 ∧ Claimed_1_2 := ⟨lw_limb limb_1_1 (fun args s t => by simp [limb_1_1, Cond.after, Cond.holds, Cond.value]), lw_limb limb_1_2 (fun args s t => Cond.after_iff.mpr (by
  first | (rw [show limb_1_2 = Cond.eq .result (.int 1) from rfl, Cond.eq_ints (x := 1) (y := 1) rfl rfl]; simp; done) | (simp [limb_1_2, Cond.value, Term.eval]; done)))⟩

