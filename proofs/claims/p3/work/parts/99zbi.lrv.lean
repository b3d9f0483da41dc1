set_option maxRecDepth 100000
/-! answers that the law compares -/
section LV
variable {i u w : Nat → Nat → Int32} {r v : Nat → Nat → Nat} {d d1 d' : Nat → Nat → UInt64} {n : Nat}
theorem run_goV {x va vb : Int} (h : LR i r d n) (hu : u 36 = i 36) (hmr : mrest u = mrest i)
    (hc : ((x < 1 ∨ 40 < x) ∧ va = -1 ∧ (u 23 8).toInt = (i 23 8).toInt ∧ rest u r = rest i r) ∨ ((1 ≤ x ∧ x ≤ 40) ∧ (((i 23 8).toInt = 0 ∧ va = 0 ∧ (u 23 8).toInt = 0) ∨ ((i 23 8).toInt = 1 ∧ ((rest i r ≤ x ∧ va = rest i r ∧ (u 23 8).toInt = 0) ∨ (x < rest i r ∧ va = x ∧ (u 23 8).toInt = 1 ∧ rest u r + x = rest i r))))))
    (hm : ((x < 1 ∨ 40 < x) ∧ vb = -1 ∧ (w 36 76).toInt = (u 36 76).toInt ∧ mrest w = mrest u) ∨ ((1 ≤ x ∧ x ≤ 40) ∧ (((u 36 76).toInt = 0 ∧ vb = 0 ∧ (w 36 76).toInt = 0) ∨ ((u 36 76).toInt = 1 ∧ ((mrest u ≤ x ∧ vb = mrest u ∧ (w 36 76).toInt = 0) ∨ (x < mrest u ∧ vb = x ∧ (w 36 76).toInt = 1 ∧ mrest w + x = mrest u)))))) : va = vb := by
  obtain ⟨_, _, _, _, _, _, _, ⟨r1, r2⟩, _⟩ := h
  have e76 : (u 36 76).toInt = (i 36 76).toInt := by rw [hu]
  rw [hmr, e76] at hm
  by_cases q : (i 23 8).toInt = 1
  · have r3 := r2 q
    omega
  · omega
end LV
