/-- the fields of a new StoryDeskModel: its arrays by their places, what it calls thrown -/
abbrev sj_M (g : Nat → Nat) (th : Int32) : List Value := [.int th, .ref (g 1), .int 0, .ref (g 3), .int 0, .ref (g 5), .int 0, .int 0, .int 0, .int 0, .int 0, .int 0, .ref (g 12), .int 0, .ref (g 14), .ref (g 15), .ref (g 16), .int 0, .int 0, .ref (g 19), .ref (g 20), .ref (g 21), .ref (g 22), .int 0, .ref (g 24), .ref (g 25), .int 0, .int 0, .ref (g 28), .ref (g 29), .ref (g 30), .ref (g 31), .ref (g 32), .int 0, .ref (g 34), .ref (g 35), .ref (g 36), .ref (g 37), .ref (g 38), .ref (g 39), .int 0, .int 0, .ref (g 42), .ref (g 43), .ref (g 44), .int 0, .ref (g 46), .ref (g 47), .ref (g 48), .int 0, .ref (g 50), .ref (g 51), .int 0, .ref (g 53), .int 0, .int 0, .ref (g 56), .int 0, .ref (g 58), .ref (g 59), .ref (g 60), .ref (g 61), .ref (g 62), .ref (g 63), .ref (g 64), .int 0, .int 0, .int 0, .ref (g 68), .ref (g 69), .ref (g 70), .ref (g 71), .ref (g 72), .ref (g 73), .int 0, .int 0, .int 0, .int 0, .int 0, .int 0, .int 0, .int 0, .ref (g 82), .ref (g 83), .ref (g 84), .ref (g 85)]
theorem sj_ltF {x y : Int32} {n : Int} (hy : y.toInt = n) (h : x < y) : x.toInt < n := hy ▸ Int32.lt_iff_toInt_lt.mp h
theorem sj_leF {x y : Int32} {n : Int} (hy : y.toInt = n) (h : x ≤ y) : x.toInt ≤ n := hy ▸ Int32.le_iff_toInt_le.mp h
theorem sj_gtF {x y : Int32} {n : Int} (hy : y.toInt = n) (h : y < x) : n < x.toInt := hy ▸ Int32.lt_iff_toInt_lt.mp h
theorem sj_geF {x y : Int32} {n : Int} (hy : y.toInt = n) (h : y ≤ x) : n ≤ x.toInt := hy ▸ Int32.le_iff_toInt_le.mp h
theorem sj_eqF {x y : Int32} {n : Int} (hy : y.toInt = n) (h : x = y) : x.toInt = n := by rw [h, hy]
theorem sj_nlt {x y : Int32} {n : Int} (hy : y.toInt = n) (h : ¬ x < y) : n ≤ x.toInt := by rw [Int32.lt_iff_toInt_lt, hy] at h; omega
theorem sj_nle {x y : Int32} {n : Int} (hy : y.toInt = n) (h : ¬ x ≤ y) : n < x.toInt := by rw [Int32.le_iff_toInt_le, hy] at h; omega
theorem sj_ngt {x y : Int32} {n : Int} (hy : y.toInt = n) (h : ¬ y < x) : x.toInt ≤ n := by rw [Int32.lt_iff_toInt_lt, hy] at h; omega
theorem sj_nge {x y : Int32} {n : Int} (hy : y.toInt = n) (h : ¬ y ≤ x) : x.toInt < n := by rw [Int32.le_iff_toInt_le, hy] at h; omega
theorem sj_neF {x y : Int32} {n : Int} (hy : y.toInt = n) (h : ¬ x = y) : x.toInt ≠ n := fun q => h (Int32.toInt_inj.mp (by rw [hy]; exact q))
theorem sj_ltP {x y : Int32} {n : Int} (hy : y.toInt = n) (h : x.toInt < n) : x < y := Int32.lt_iff_toInt_lt.mpr (by rw [hy]; exact h)
theorem sj_leP {x y : Int32} {n : Int} (hy : y.toInt = n) (h : x.toInt ≤ n) : x ≤ y := Int32.le_iff_toInt_le.mpr (by rw [hy]; exact h)
theorem sj_gtP {x y : Int32} {n : Int} (hy : y.toInt = n) (h : n < x.toInt) : y < x := Int32.lt_iff_toInt_lt.mpr (by rw [hy]; exact h)
theorem sj_geP {x y : Int32} {n : Int} (hy : y.toInt = n) (h : n ≤ x.toInt) : y ≤ x := Int32.le_iff_toInt_le.mpr (by rw [hy]; exact h)
theorem sj_eqP {x y : Int32} {n : Int} (hy : y.toInt = n) (h : x.toInt = n) : x = y := Int32.toInt_inj.mp (by rw [hy]; exact h)
theorem sj_nltP {x y : Int32} {n : Int} (hy : y.toInt = n) (h : n ≤ x.toInt) : ¬ x < y := by rw [Int32.lt_iff_toInt_lt, hy]; omega
theorem sj_nleP {x y : Int32} {n : Int} (hy : y.toInt = n) (h : n < x.toInt) : ¬ x ≤ y := by rw [Int32.le_iff_toInt_le, hy]; omega
theorem sj_ngtP {x y : Int32} {n : Int} (hy : y.toInt = n) (h : x.toInt ≤ n) : ¬ y < x := by rw [Int32.lt_iff_toInt_lt, hy]; omega
theorem sj_ngeP {x y : Int32} {n : Int} (hy : y.toInt = n) (h : x.toInt < n) : ¬ y ≤ x := by rw [Int32.le_iff_toInt_le, hy]; omega
theorem sj_neP {x y : Int32} {n : Int} (hy : y.toInt = n) (h : x.toInt ≠ n) : ¬ x = y := fun q => h (by rw [q, hy])
theorem sj_nI {x : Int32} {n : Nat} (hn : n < 2 ^ 31) (h : x.toInt = n) : x = nI n := Int32.toInt_inj.mp (by rw [nI_toInt hn]; exact h)
theorem sj_sub2 {D : va_G} {A : Nat → Prop} {X c1 pl : va_W} {H : Heap} (hH : sj_H D A (X ++ pl) H) (is : List Nat) (hn : va_nd is = true) (hs : is.map (fun i => X[i]?) = c1.map some) : sj_H D A (c1 ++ pl) H := ⟨hH.1.part is hs, hH.2.part is hn hs⟩
