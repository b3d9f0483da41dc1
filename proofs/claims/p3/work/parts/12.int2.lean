theorem s_ofN {x : Int32} {a : Int} (hx : x.toInt = a) (h0 : 0 ≤ a) (h1 : a < 2147483648) : x = nI a.toNat := p_eq hx (s_nIt (by omega)) (by omega)
theorem s_narc {x : Int32} {a : Int} (hx : x.toInt = a) (h0 : 0 ≤ a) (h1 : a ≤ 65535) : vp_nar .char x = x := by
  rw [s_ofN hx h0 (by omega)]
  unfold vp_nar
  rw [(pk_charN (q := a.toNat) (by omega)).1]
theorem s_narcR {x z : Int32} (ez : vp_nar .char x = z) : 0 ≤ z.toInt ∧ z.toInt ≤ 65535 := by
  rw [← ez, vp_nar_char, UInt32.toUInt32_toUInt16]
  exact s_u16 _
theorem s_nc {v : Int32} (h : 0 ≤ v.toInt ∧ v.toInt ≤ 65535) : narrow .char (.int v) = .int v := by
  rw [s_ofN (x := v) rfl h.1 (by omega)]
  exact (pk_charN (by omega)).1
theorem s_narb {x : Int32} {a : Int} (hx : x.toInt = a) (h0 : 0 ≤ a) (h1 : a ≤ 1) : vp_nar .boolean x = x := by
  unfold vp_nar
  rw [s_nz ⟨by omega, by omega⟩]
theorem s_vin9 {x : Int32} {a : Int} (hx : x.toInt = a) (h0 : 0 ≤ a) (h1 : a < 9) : vp_in x 9 := by
  intro q
  rcases q with q | q
  · have h9 := s_lt hx (show (0 : Int32).toInt = 0 from rfl) q; omega
  · rw [s_cl hx] at q; omega
theorem s_may {x z : Int32} {a : Int} (hx : x.toInt = a) (h0 : 0 ≤ a) (h1 : a < 9) (ez : z = jMay.getD x.toNatClampNeg 0) : (a = 0 ∧ z = 10) ∨ (a = 1 ∧ z = 626) ∨ (a = 2 ∧ z = 850) ∨ (a = 3 ∧ z = 342) ∨ (a = 4 ∧ z = 978) ∨ (a = 5 ∧ z = 470) ∨ (a = 6 ∧ z = 726) ∨ (a = 7 ∧ z = 214) ∨ (a = 8 ∧ z = 626) := by
  rw [s_cl hx] at ez
  rcases (show a = 0 ∨ a = 1 ∨ a = 2 ∨ a = 3 ∨ a = 4 ∨ a = 5 ∨ a = 6 ∨ a = 7 ∨ a = 8 by omega) with h | h | h | h | h | h | h | h | h <;> subst h
  · exact Or.inl ⟨rfl, ez⟩
  · exact Or.inr (Or.inl ⟨rfl, ez⟩)
  · exact Or.inr (Or.inr (Or.inl ⟨rfl, ez⟩))
  · exact Or.inr (Or.inr (Or.inr (Or.inl ⟨rfl, ez⟩)))
  · exact Or.inr (Or.inr (Or.inr (Or.inr (Or.inl ⟨rfl, ez⟩))))
  · exact Or.inr (Or.inr (Or.inr (Or.inr (Or.inr (Or.inl ⟨rfl, ez⟩)))))
  · exact Or.inr (Or.inr (Or.inr (Or.inr (Or.inr (Or.inr (Or.inl ⟨rfl, ez⟩))))))
  · exact Or.inr (Or.inr (Or.inr (Or.inr (Or.inr (Or.inr (Or.inr (Or.inl ⟨rfl, ez⟩)))))))
  · exact Or.inr (Or.inr (Or.inr (Or.inr (Or.inr (Or.inr (Or.inr (Or.inr ⟨rfl, ez⟩)))))))
