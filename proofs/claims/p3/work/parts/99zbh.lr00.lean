set_option maxRecDepth 100000
/-! the relation holds at the start -/
theorem s_vinL {x : Int32} {a : Int} {N : Nat} (hx : x.toInt = a) (h0 : 0 ≤ a) (h1 : a < (N : Int)) : vp_in x N := by
  intro q
  rcases q with q | q
  · have h9 := s_lt hx (show (0 : Int32).toInt = 0 from rfl) q; omega
  · rw [s_cl hx] at q; omega
theorem zb_1 {l : List (Int × Int)} (h : l.all (fun p => decide (p.1 ≤ 0) && decide (0 ≤ p.2)) = true) (k : Nat) : (l.getD k bF).1 ≤ 0 ∧ 0 ≤ (l.getD k bF).2 := by
  rw [List.getD_eq_getElem?_getD]
  cases h9 : l[k]? with
  | none => exact ⟨by decide, by decide⟩
  | some x =>
    have h2 := List.all_eq_true.mp h x (List.mem_of_getElem? h9)
    rw [Bool.and_eq_true] at h2
    exact ⟨of_decide_eq_true h2.1, of_decide_eq_true h2.2⟩
theorem zb_2 {l : List (List (Int × Int))} (h : l.all (fun m => m.all (fun p => decide (p.1 ≤ 0) && decide (0 ≤ p.2))) = true) (n k : Nat) : ((l.getD n []).getD k bF).1 ≤ 0 ∧ 0 ≤ ((l.getD n []).getD k bF).2 := by
  refine zb_1 ?_ k
  rw [List.getD_eq_getElem?_getD]
  cases h9 : l[n]? with
  | none => rfl
  | some x => exact List.all_eq_true.mp h x (List.mem_of_getElem? h9)
theorem b00_S : bSL.all (fun m => m.all (fun p => decide (p.1 ≤ 0) && decide (0 ≤ p.2))) = true := by decide +kernel
theorem b00_E : bEL.all (fun m => m.all (fun p => decide (p.1 ≤ 0) && decide (0 ≤ p.2))) = true := by decide +kernel
theorem b00_M : bML.all (fun p => decide (p.1 ≤ 0) && decide (0 ≤ p.2)) = true := by decide +kernel
theorem b00_P : bP.all (fun p => decide (p.1 ≤ 0) && decide (0 ≤ p.2)) = true := by decide +kernel
theorem b00_R : bR.all (fun p => decide (p.1 ≤ 0) && decide (0 ≤ p.2)) = true := by decide +kernel
theorem b00_C : bC.all (fun p => decide (p.1 ≤ 0) && decide (0 ≤ p.2)) = true := by decide +kernel
theorem b00_T : bT.all (fun p => decide (p.1 ≤ 0) && decide (0 ≤ p.2)) = true := by decide +kernel
theorem bx_0 (n k : Nat) : (bx n k).1 ≤ 0 ∧ 0 ≤ (bx n k).2 := by
  have hS := fun n k => zb_2 (l := bSL) b00_S n k
  have hE := fun n k => zb_2 (l := bEL) b00_E n k
  have hM := fun k => zb_1 (l := bML) b00_M k
  have hP := fun k => zb_1 (l := bP) b00_P k
  have hR := fun k => zb_1 (l := bR) b00_R k
  have hC := fun k => zb_1 (l := bC) b00_C k
  have hT := fun k => zb_1 (l := bT) b00_T k
  unfold bx
  repeat' split
  all_goals first | with_reducible exact hS _ _ | with_reducible exact hE _ _ | with_reducible exact hM _ | with_reducible exact hP _ | with_reducible exact hR _ | with_reducible exact hC _ | with_reducible exact hT _ | exact ⟨by decide, by decide⟩
theorem z00 {n : Nat} (h : n ≠ 25 ∧ n ≠ 26 ∧ n ≠ 27 ∧ n ≠ 427) : i00 n = fun _ => 0 := by
  unfold i00
  by_cases h1 : n < 25
  · rw [if_pos h1]
  · rw [if_neg h1, if_neg (by omega), if_neg (by omega)]
theorem z00i {n k : Nat} (h : n ≠ 25 ∧ n ≠ 26 ∧ n ≠ 27 ∧ n ≠ 427) : (i00 n k).toInt = 0 := by rw [z00 h]; rfl
theorem w00 {n k : Nat} (h : n = 25 ∨ n = 26 ∨ n = 27) (h0 : k ≠ 0) (h1 : k ≠ 1) : (i00 n k).toInt = 0 := by
  have e : i00 n k = if k = 0 then nI (n - 25) else if k = 1 then -1 else 0 := by
    unfold i00; rw [if_neg (by omega), if_pos (by omega)]
  rw [e, if_neg h0, if_neg h1]; rfl
theorem ok00 : OkI i00 := fun n k => by
  have hz := bx_0 n k
  by_cases h1 : n ≠ 25 ∧ n ≠ 26 ∧ n ≠ 27 ∧ n ≠ 427
  · rw [z00i h1]; exact hz
  · by_cases h2 : n = 427
    · subst h2
      have e : i00 427 k = if k < 3 then -1 else 0 := rfl
      by_cases q : k < 3
      · have hb : bx 427 k = (-1, 23) := rfl
        rw [e, if_pos q, hb]; exact ⟨by decide, by decide⟩
      · rw [e, if_neg q]; exact hz
    · have h3 : n = 25 ∨ n = 26 ∨ n = 27 := by omega
      by_cases q0 : k = 0
      · subst q0; rcases h3 with rfl | rfl | rfl <;> exact ⟨by decide, by decide⟩
      · by_cases q1 : k = 1
        · subst q1; rcases h3 with rfl | rfl | rfl <;> exact ⟨by decide, by decide⟩
        · rw [w00 h3 q0 q1]; exact hz
theorem rs00 : RS r00 := fun n k h => by
  unfold r00
  by_cases h1 : n = 0 ∧ k = 12
  · obtain ⟨rfl, rfl⟩ := h1; exact absurd h (by decide)
  · by_cases h2 : n = 0 ∧ k = 13
    · obtain ⟨rfl, rfl⟩ := h2; exact absurd h (by decide)
    · by_cases h3 : n = 3 ∧ k = 17
      · obtain ⟨rfl, rfl⟩ := h3; exact absurd h (by decide)
      · by_cases h4 : n = 3 ∧ k = 18
        · obtain ⟨rfl, rfl⟩ := h4; exact absurd h (by decide)
        · by_cases h5 : 216 ≤ n ∧ n < 240 ∧ k < 3
          · have h6 : dyn n k = true := by
              unfold dyn
              rw [decide_eq_true h5.1, decide_eq_true h5.2.1, decide_eq_true h5.2.2]; simp
            rw [h6] at h; exact absurd h (by decide)
          · rw [if_neg h1, if_neg h2, if_neg h3, if_neg h4, if_neg h5]
theorem LR_00 : LR i00 r00 d00 0 := by
  have z : ∀ n k : Nat, (n ≠ 25 ∧ n ≠ 26 ∧ n ≠ 27 ∧ n ≠ 427) → (i00 n k).toInt = 0 := fun n k h => z00i h
  refine ⟨⟨ok00, rs00⟩, ⟨⟨fun p h1 h2 => ?_, fun j c h1 h2 => ?_, fun j h1 => z _ _ (by omega), fun c h1 => ?_⟩, ⟨fun j h1 => ?_, fun h h1 => ?_, Or.inl ⟨z 23 8 (by decide), fun w hw => ?_⟩⟩, ⟨⟨by decide, by decide⟩, ⟨by decide, by decide⟩⟩⟩, ⟨9, 10, ⟨by decide, by decide⟩, ⟨by decide, by decide⟩, by decide, by decide, by decide, ⟨fun k hk => ?_, Or.inl (z _ _ (by decide))⟩, ?_⟩, ⟨fun c => Or.inr ?_, fun d hd => ?_, Or.inl ⟨z 36 76 (by decide), fun x hx => ?_⟩⟩, ⟨by rw [z 1 1 (by decide), z 36 2 (by decide)], fun k hk => ?_⟩, ⟨[], ⟨z 13 4 (by decide), fun c s t h => by simp at h⟩, ⟨z 36 33 (by decide), fun c s t h => by simp at h⟩, fun c hc => by simp at hc⟩, ⟨by rw [z 0 11 (by decide), z 36 67 (by decide)], fun h hh => ?_⟩, ⟨by rw [z 23 8 (by decide), z 36 76 (by decide)], fun q => ?_⟩, ⟨by rw [z 23 10 (by decide)]; decide, by rw [z 36 81 (by decide)]; decide⟩⟩
  · rw [z p 2 (by omega), z p 3 (by omega), z p 4 (by omega), z p 5 (by omega), z p 7 (by omega), z p 8 (by omega)]
    exact ⟨fun _ => by decide, fun _ => by decide, by decide, fun _ _ => by decide⟩
  · rw [z (96 + 3 * j + 1) c (by omega), z (96 + 3 * j + 2) c (by omega)]; decide
  · have e : ∀ k : Nat, k < 3 → r00 (216 + 1 * c) k = 430 := fun k hk => by
      unfold r00
      rw [if_neg (by omega), if_neg (by omega), if_neg (by omega), if_neg (by omega), if_pos ⟨by omega, by omega, hk⟩]
    refine ⟨fun h => ?_, Or.inl ⟨?_, ?_⟩⟩
    · rw [z 13 4 (by decide)] at h; omega
    · rw [e 1 (by decide)]; decide
    · rw [e 2 (by decide)]; decide
  · rw [z 0 7 (by decide)] at h1; omega
  · rw [z 0 11 (by decide)] at h1; omega
  · rcases (show w = 0 ∨ w = 1 ∨ w = 2 by omega) with rfl | rfl | rfl <;> decide
  · rw [z (357 + 2 * 9) 1 (by decide)] at hk; exact absurd hk (Nat.not_lt_zero k)
  · have e1 : tgJ i00 9 = [] := by unfold tgJ; rw [z (357 + 2 * 9) 1 (by decide)]; rfl
    have e2 : tgLM i00 8 = [] := by unfold tgLM; rw [z 417 8 (by decide)]; rfl
    rw [e1, e2]; rfl
  · rw [z 398 c (by decide)]; decide
  · rw [z 36 41 (by decide)] at hd; omega
  · rcases (show x = 0 ∨ x = 1 ∨ x = 2 by omega) with rfl | rfl | rfl <;> decide
  · rw [z 1 1 (by decide)] at hk; omega
  · rw [z 0 11 (by decide)] at hh; omega
  · rw [z 23 8 (by decide)] at q; omega
