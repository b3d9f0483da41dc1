/-! one heap: the objects and arrays that both programs hold for good, by their numbers; a number's ints by i, its references by r, its longs by L, its doubles by d; addresses by g -/
def hw (g : Nat → Nat) (C : Nat → va_E) (K : Nat) : va_W := (List.range K).map (fun n => (g n, C n))
theorem hw_get {g : Nat → Nat} {C : Nat → va_E} {K n : Nat} (h : n < K) : (hw g C K)[n]? = some (g n, C n) := by
  unfold hw; rw [List.getElem?_map, List.getElem?_range h]; rfl
theorem hw_len {g : Nat → Nat} {C : Nat → va_E} {K : Nat} : (hw g C K).length = K := by unfold hw; rw [List.length_map, List.length_range]
theorem hw_none {g : Nat → Nat} {C : Nat → va_E} {K n : Nat} (h : ¬ n < K) : (hw g C K)[n]? = none := List.getElem?_eq_none (by rw [hw_len]; omega)
theorem hw_set {g : Nat → Nat} {C : Nat → va_E} {K n : Nat} {c : va_E} : (hw g C K).set n (g n, c) = hw g (va_up C n c) K := by
  apply List.ext_getElem?
  intro m
  rw [List.getElem?_set, hw_len]
  by_cases h : n = m
  · subst h
    rw [if_pos rfl]
    by_cases hk : n < K
    · rw [if_pos hk, hw_get hk, va_up_self]
    · rw [if_neg hk, hw_none hk]
  · rw [if_neg h]
    by_cases hk : m < K
    · rw [hw_get hk, hw_get hk, va_up_ne _ _ (fun q => h q.symm)]
    · rw [hw_none hk, hw_none hk]
def kS : List Nat := [11, 3, 14, 5, 3, 14, 13, 13, 22, 22, 22, 22, 24, 1, 3, 14, 3, 14, 18, 8, 13, 13, 13, 7, 28, 10, 10, 10, 13, 13, 20, 13, 27, 15, 13, 16, 12]
def kE : List Nat := [2, 14, 13, 14, 13, 16, 13, 13, 14]
def kM : List Nat := [14, 14, 13, 13, 13, 13, 13, 13, 13, 13, 14, 13, 13, 13, 13, 13, 13, 14, 13, 13, 13, 13, 13, 14, 14, 13, 13, 13, 13, 13, 13, 13, 14, 16, 14, 13, 13, 14, 13, 13, 14, 15, 13, 13, 13, 13, 17, 13, 13, 13, 13]
def lS : List Nat := [0, 0, 480, 0, 0, 480, 20, 20, 5, 12, 30, 12, 40, 0, 0, 60, 0, 60, 24, 0, 32, 32, 8, 0, 3, 0, 0, 0, 24, 256, 13, 12, 9, 8, 8, 1, 0]
def lE : List Nat := [0, 60, 62, 60, 61, 61, 6, 6, 6]
def lM : List Nat := [480, 480, 40, 5, 12, 12, 12, 30, 30, 30, 1800, 12, 12, 40, 40, 40, 160, 9600, 24, 24, 24, 24, 24, 60, 720, 12, 12, 64, 64, 64, 64, 64, 64, 64, 6, 6, 6, 360, 9, 42, 42, 8, 8, 32, 32, 8, 3, 256, 3, 3, 3]
/-- how many numbers there are -/
abbrev nK : Nat := 430
/-- the kind of a number: 0 to 12 an object of that class, 13 ints, 14 chars, 15 booleans, 16 longs, 17 doubles, 18 + c references to objects of class c -/
def kd (n : Nat) : Nat := if n < 37 then kS.getD n 0 else if n < 96 then 4 else if n < 216 then (if (n - 96) % 3 = 0 then 6 else 13) else if n < 240 then 0 else if n < 357 then kE.getD ((n - 240) % 9) 0 else if n < 379 then (if (n - 357) % 2 = 0 then 9 else 14) else kM.getD (n - 379) 13
def ln (n : Nat) : Nat := if n < 37 then lS.getD n 0 else if n < 96 then 0 else if n < 216 then 4 else if n < 240 then 0 else if n < 357 then lE.getD ((n - 240) % 9) 0 else if n < 379 then 40 else lM.getD (n - 379) 0
def nfL : List Nat := [5, 5, 11, 2, 9, 19, 4, 11, 3, 4, 8, 14, 86]
def nf (c : Nat) : Nat := nfL.getD c 0
def ftL : List (List Nat) := [[1, 1, 1, 0, 0], [1, 1, 1, 1, 0], [1, 1, 0, 1, 1, 0, 0, 1, 1, 1, 1], [1, 0], [0, 0, 0, 0, 0, 0, 0, 0, 0], [1, 0, 1, 1, 0, 1, 0, 1, 0, 1, 0, 1, 0, 1, 0, 0, 0, 1, 1], [1, 1, 0, 0], [1, 0, 0, 1, 0, 0, 0, 0, 0, 1, 0], [1, 1, 1], [1, 0, 0, 0], [0, 0, 0, 0, 0, 2, 0, 0], [1, 1, 1, 1, 1, 1, 1, 0, 1, 1, 1, 0, 1, 1], [0, 1, 0, 1, 0, 1, 0, 0, 0, 0, 0, 0, 1, 0, 1, 1, 1, 0, 0, 1, 1, 1, 1, 0, 1, 1, 0, 0, 1, 1, 1, 1, 1, 0, 1, 1, 1, 1, 1, 1, 0, 0, 1, 1, 1, 0, 1, 1, 1, 0, 1, 1, 0, 1, 0, 0, 1, 0, 1, 1, 1, 1, 1, 1, 1, 0, 0, 0, 1, 1, 1, 1, 1, 1, 0, 0, 0, 0, 0, 0, 0, 0, 1, 1, 1, 1]]
/-- of what kind a field is: 0 an int, 1 a reference, 2 a double -/
def ft (c k : Nat) : Nat := (ftL.getD c []).getD k 0
def rxL : List String := [RX0, RX1, RX2, RX3, RX4, RX5, RX6, RX7, RX8, RX9, RX10, RX11, RX12]
def ety (k : Nat) : FieldType := if k = 14 then .char else if k = 15 then .boolean else if k = 16 then .long else if k = 17 then .double else if k < 18 then .int else .object (rxL.getD (k - 18) RX0)
def rq (g : Nat → Nat) (x : Nat) : Option Nat := if x < nK then some (g x) else none
def fv (g : Nat → Nat) (t : Nat) (a : Int32) (b : Nat) (e : UInt64) : Value := if t = 0 then .int a else if t = 1 then va_rf (rq g b) else .double e
def fsl (g : Nat → Nat) (c : Nat) (a : Nat → Int32) (b : Nat → Nat) (e : Nat → UInt64) : List Value := (List.range (nf c)).map (fun k => fv g (ft c k) (a k) (b k) (e k))
def ce (g : Nat → Nat) (cA : ClassId) (k N : Nat) (a : Nat → Int32) (b : Nat → Nat) (x : Nat → Int64) (e : Nat → UInt64) : va_E :=
  if k < 13 then .inr (k, fsl g k a b e) else if k < 16 then .inl (cA, N, .inl a) else if k = 16 then .inl (cA, N, .inr (.inl x)) else if k = 17 then .inl (cA, N, .inr (.inr (.inr (.inl e)))) else .inl (cA, N, .inr (.inr (.inr (.inr (fun j => rq g (b j))))))
def cel (g : Nat → Nat) (ka : Nat → ClassId) (i : Nat → Nat → Int32) (r : Nat → Nat → Nat) (L : Nat → Nat → Int64) (d : Nat → Nat → UInt64) (n : Nat) : va_E := ce g (ka n) (kd n) (ln n) (i n) (r n) (L n) (d n)
abbrev hwc (g : Nat → Nat) (ka : Nat → ClassId) (i : Nat → Nat → Int32) (r : Nat → Nat → Nat) (L : Nat → Nat → Int64) (d : Nat → Nat → UInt64) : va_W := hw g (cel g ka i r L d) nK
def hT (ka : Nat → ClassId) : List (ClassId × FieldType) := (List.range nK).map (fun n => (ka n, ety (kd n)))
theorem hT_get {ka : Nat → ClassId} {n k : Nat} {ty : FieldType} (h : n < nK) (hk : kd n = k) (hty : ety k = ty) : (hT ka)[n]? = some (ka n, ty) := by
  unfold hT; rw [List.getElem?_map, List.getElem?_range h, ← hty, ← hk]; rfl
/-- one int, one reference, one long, one double written -/
def up2 (i : Nat → Nat → Int32) (n k : Nat) (v : Int32) : Nat → Nat → Int32 := va_up i n (upd (i n) k v)
def upr (r : Nat → Nat → Nat) (n k : Nat) (v : Nat) : Nat → Nat → Nat := va_up r n (va_up (r n) k v)
def upl (L : Nat → Nat → Int64) (n k : Nat) (v : Int64) : Nat → Nat → Int64 := va_up L n (vp_updL (L n) k v)
def upf (d : Nat → Nat → UInt64) (n k : Nat) (v : UInt64) : Nat → Nat → UInt64 := va_up d n (vf_upd (d n) k v)
theorem up2_at (i : Nat → Nat → Int32) (n k : Nat) (v : Int32) : up2 i n k v n k = v := by unfold up2; rw [va_up_self]; exact if_pos rfl
theorem up2_k (i : Nat → Nat → Int32) {n k j : Nat} (v : Int32) (h : j ≠ k) : up2 i n k v n j = i n j := by unfold up2; rw [va_up_self]; exact if_neg h
theorem up2_n (i : Nat → Nat → Int32) {n k a : Nat} (v : Int32) (h : a ≠ n) : up2 i n k v a = i a := by unfold up2; exact va_up_ne _ _ h
theorem upr_at (r : Nat → Nat → Nat) (n k v : Nat) : upr r n k v n k = v := by unfold upr; rw [va_up_self, va_up_self]
theorem upr_k (r : Nat → Nat → Nat) {n k j : Nat} (v : Nat) (h : j ≠ k) : upr r n k v n j = r n j := by unfold upr; rw [va_up_self, va_up_ne _ _ h]
theorem upr_n (r : Nat → Nat → Nat) {n k a : Nat} (v : Nat) (h : a ≠ n) : upr r n k v a = r a := by unfold upr; exact va_up_ne _ _ h
section Q
variable {g : Nat → Nat} {ka : Nat → ClassId} {i : Nat → Nat → Int32} {r : Nat → Nat → Nat} {L : Nat → Nat → Int64} {d : Nat → Nat → UInt64} {n k c : Nat}
theorem q_obj (hn : n < nK) (hk : kd n = c) (hc : c < 13) : (hwc g ka i r L d)[n]? = some (g n, .inr (c, fsl g c (i n) (r n) (d n))) := by
  rw [hw_get hn]; unfold cel ce; rw [hk, if_pos hc]
theorem q_int (hn : n < nK) (hk : kd n = c) (h1 : 13 ≤ c) (h2 : c < 16) : (hwc g ka i r L d)[n]? = some (g n, .inl (ka n, ln n, .inl (i n))) := by
  rw [hw_get hn]; unfold cel ce; rw [hk, if_neg (by omega), if_pos h2]
theorem q_long (hn : n < nK) (hk : kd n = 16) : (hwc g ka i r L d)[n]? = some (g n, .inl (ka n, ln n, .inr (.inl (L n)))) := by
  rw [hw_get hn]; unfold cel ce; rw [hk]; rfl
theorem q_dbl (hn : n < nK) (hk : kd n = 17) : (hwc g ka i r L d)[n]? = some (g n, .inl (ka n, ln n, .inr (.inr (.inr (.inl (d n)))))) := by
  rw [hw_get hn]; unfold cel ce; rw [hk]; rfl
theorem q_ref (hn : n < nK) (hk : kd n = c) (h : 18 ≤ c) : (hwc g ka i r L d)[n]? = some (g n, .inl (ka n, ln n, .inr (.inr (.inr (.inr (fun j => rq g (r n j))))))) := by
  rw [hw_get hn]; unfold cel ce; rw [hk, if_neg (by omega), if_neg (by omega), if_neg (by omega), if_neg (by omega)]
theorem fsl_get {a : Nat → Int32} {b : Nat → Nat} {e : Nat → UInt64} (hk : k < nf c) : (fsl g c a b e)[k]? = some (fv g (ft c k) (a k) (b k) (e k)) := by
  unfold fsl; rw [List.getElem?_map, List.getElem?_range hk]; rfl
theorem fsl_i {a : Nat → Int32} {b : Nat → Nat} {e : Nat → UInt64} (hk : k < nf c) (ht : ft c k = 0) : (fsl g c a b e)[k]? = some (.int (a k)) := by rw [fsl_get hk, ht]; rfl
theorem fsl_r {a : Nat → Int32} {b : Nat → Nat} {e : Nat → UInt64} {t : Nat} (hk : k < nf c) (ht : ft c k = 1) (hr : b k = t) (hn : t < nK) : (fsl g c a b e)[k]? = some (.ref (g t)) := by
  rw [fsl_get hk, ht, hr]; unfold fv rq; rw [if_neg (by decide), if_pos rfl, if_pos hn]; rfl
theorem fsl_q {a : Nat → Int32} {b : Nat → Nat} {e : Nat → UInt64} (hk : k < nf c) (ht : ft c k = 1) : (fsl g c a b e)[k]? = some (va_rf (rq g (b k))) := by
  rw [fsl_get hk, ht]; rfl
theorem fsl_d {a : Nat → Int32} {b : Nat → Nat} {e : Nat → UInt64} (hk : k < nf c) (ht : ft c k = 2) : (fsl g c a b e)[k]? = some (.double (e k)) := by
  rw [fsl_get hk, ht]; rfl
theorem rq_some {t : Nat} (h : t < nK) : va_rf (rq g t) = .ref (g t) := by unfold rq; rw [if_pos h]; rfl
theorem rq_none {t : Nat} (h : ¬ t < nK) : va_rf (rq g t) = .null := by unfold rq; rw [if_neg h]; rfl
theorem fsl_set {a a' : Nat → Int32} {b b' : Nat → Nat} {e e' : Nat → UInt64} {v : Value} (hk : k < nf c) (h1 : fv g (ft c k) (a' k) (b' k) (e' k) = v) (h2 : ∀ j, j ≠ k → a' j = a j ∧ b' j = b j ∧ e' j = e j) : (fsl g c a b e).set k v = fsl g c a' b' e' := by
  apply List.ext_getElem?
  intro m
  rw [List.getElem?_set]
  have hlen : (fsl g c a b e).length = nf c := by unfold fsl; rw [List.length_map, List.length_range]
  by_cases h : k = m
  · subst h
    rw [if_pos rfl, hlen, if_pos hk, fsl_get hk, h1]
  · rw [if_neg h]
    by_cases hm : m < nf c
    · obtain ⟨q1, q2, q3⟩ := h2 m (fun q => h q.symm)
      rw [fsl_get hm, fsl_get hm, q1, q2, q3]
    · rw [List.getElem?_eq_none (by rw [hlen]; omega), List.getElem?_eq_none (by unfold fsl; rw [List.length_map, List.length_range]; omega)]
theorem cel_put {i' : Nat → Nat → Int32} {r' : Nat → Nat → Nat} {L' : Nat → Nat → Int64} {d' : Nat → Nat → UInt64} {q : va_E} (h1 : ∀ a, a ≠ n → i' a = i a ∧ r' a = r a ∧ L' a = L a ∧ d' a = d a) (h2 : cel g ka i' r' L' d' n = q) : va_up (cel g ka i r L d) n q = cel g ka i' r' L' d' := by
  funext a
  by_cases h : a = n
  · subst h; rw [va_up_self, h2]
  · obtain ⟨e1, e2, e3, e4⟩ := h1 a h
    rw [va_up_ne _ _ h]; unfold cel; rw [e1, e2, e3, e4]
theorem put_i {v : Int32} (hk : kd n = c) (hc : c < 13) (hf : k < nf c) (ht : ft c k = 0) : (hwc g ka i r L d).set n (g n, .inr (c, (fsl g c (i n) (r n) (d n)).set k (.int v))) = hwc g ka (up2 i n k v) r L d := by
  rw [hw_set, cel_put (i' := up2 i n k v) (r' := r) (L' := L) (d' := d) (fun a h => ⟨up2_n i v h, rfl, rfl, rfl⟩)]
  unfold cel ce; rw [hk, if_pos hc]
  rw [fsl_set (a' := up2 i n k v n) (b' := r n) (e' := d n) hf (by rw [up2_at, ht]; rfl) (fun j h => ⟨up2_k i v h, rfl, rfl⟩)]
theorem put_r {t : Nat} {v : Value} (hk : kd n = c) (hc : c < 13) (hf : k < nf c) (ht : ft c k = 1) (hv : va_rf (rq g t) = v) : (hwc g ka i r L d).set n (g n, .inr (c, (fsl g c (i n) (r n) (d n)).set k v)) = hwc g ka i (upr r n k t) L d := by
  rw [hw_set, cel_put (i' := i) (r' := upr r n k t) (L' := L) (d' := d) (fun a h => ⟨rfl, upr_n r t h, rfl, rfl⟩)]
  unfold cel ce; rw [hk, if_pos hc]
  rw [fsl_set (a' := i n) (b' := upr r n k t n) (e' := d n) hf (by rw [upr_at, ht, ← hv]; rfl) (fun j h => ⟨rfl, upr_k r t h, rfl⟩)]
theorem put_d {v : UInt64} (hk : kd n = c) (hc : c < 13) (hf : k < nf c) (ht : ft c k = 2) : (hwc g ka i r L d).set n (g n, .inr (c, (fsl g c (i n) (r n) (d n)).set k (.double v))) = hwc g ka i r L (upf d n k v) := by
  rw [hw_set, cel_put (i' := i) (r' := r) (L' := L) (d' := upf d n k v) (fun a h => ⟨rfl, rfl, rfl, by unfold upf; exact va_up_ne _ _ h⟩)]
  unfold cel ce; rw [hk, if_pos hc]
  rw [fsl_set (a' := i n) (b' := r n) (e' := upf d n k v n) hf (by unfold upf; rw [va_up_self, ht]; unfold vf_upd; rw [if_pos rfl]; rfl) (fun j h => ⟨rfl, rfl, by unfold upf; rw [va_up_self]; unfold vf_upd; exact if_neg h⟩)]
theorem put_a {v : Int32} (hk : kd n = c) (h1 : 13 ≤ c) (h2 : c < 16) : (hwc g ka i r L d).set n (g n, .inl (ka n, ln n, .inl (upd (i n) k v))) = hwc g ka (up2 i n k v) r L d := by
  rw [hw_set, cel_put (i' := up2 i n k v) (r' := r) (L' := L) (d' := d) (fun a h => ⟨up2_n i v h, rfl, rfl, rfl⟩)]
  unfold cel ce; rw [hk, if_neg (by omega), if_pos h2]; unfold up2; rw [va_up_self]
theorem put_l {v : Int64} (hk : kd n = 16) : (hwc g ka i r L d).set n (g n, .inl (ka n, ln n, .inr (.inl (vp_updL (L n) k v)))) = hwc g ka i r (upl L n k v) d := by
  rw [hw_set, cel_put (i' := i) (r' := r) (L' := upl L n k v) (d' := d) (fun a h => ⟨rfl, rfl, by unfold upl; exact va_up_ne _ _ h, rfl⟩)]
  unfold cel ce; rw [hk]; unfold upl; rw [va_up_self]; rfl
theorem put_f {v : UInt64} (hk : kd n = 17) : (hwc g ka i r L d).set n (g n, .inl (ka n, ln n, .inr (.inr (.inr (.inl (vf_upd (d n) k v)))))) = hwc g ka i r L (upf d n k v) := by
  rw [hw_set, cel_put (i' := i) (r' := r) (L' := L) (d' := upf d n k v) (fun a h => ⟨rfl, rfl, rfl, by unfold upf; exact va_up_ne _ _ h⟩)]
  unfold cel ce; rw [hk]; unfold upf; rw [va_up_self]; rfl
end Q
def srL : List (List Nat) := [[1, 3, 13, 19, 23, 30, 31, 0, 32, 33, 34, 0, 0, 0], [2, 0], [], [4, 0, 6, 7, 0, 8, 0, 9, 0, 10, 0, 11, 0, 12, 0, 0, 0, 0, 0], [5, 0], [], [], [], [], [], [], [], [], [3, 14, 16, 18, 0], [15, 0], [], [17, 0], [], [], [20, 21, 22], [], [], [], [24, 0, 0, 28, 0, 0, 0, 0, 0, 29, 0], [], [0, 0, 0, 0, 0, 0, 0, 0], [0, 0, 0, 0, 0, 0, 0, 0], [0, 0, 0, 0, 0, 0, 0, 0], [], [], [], [], [], [], [], [], [0, 379, 0, 380, 0, 381, 0, 0, 0, 0, 0, 0, 382, 0, 383, 384, 385, 0, 0, 386, 387, 388, 389, 0, 390, 391, 0, 0, 392, 393, 394, 395, 396, 0, 397, 398, 399, 400, 401, 402, 0, 0, 403, 404, 405, 0, 406, 407, 408, 0, 409, 410, 0, 411, 0, 0, 412, 0, 413, 414, 415, 416, 417, 418, 419, 0, 0, 0, 420, 421, 422, 423, 424, 425, 0, 0, 0, 0, 0, 0, 0, 0, 426, 427, 428, 429]]
/-- where the references lead that never change -/
def sr (n k : Nat) : Nat := if n < 37 then (if n = 8 then 37 + 1 * k else if n = 9 then 42 + 1 * k else if n = 10 then 54 + 1 * k else if n = 11 then 84 + 1 * k else if n = 12 then 96 + 3 * k else if n = 18 then 216 + 1 * k else if n = 24 then 25 + 1 * k else if n = 30 then 240 + 9 * k else if n = 32 then 357 + 2 * k else (srL.getD n []).getD k 0) else if n < 216 then n + k + 1 else if n < 357 then n + [1, 2, 0, 3, 4, 0, 0, 5, 6, 7, 8].getD k 0 else n + 1
def dyn (n k : Nat) : Bool := (n == 3 && (k == 17 || k == 18)) || (decide (216 ≤ n) && decide (n < 240) && decide (k < 3)) || (n == 0 && (k == 12 || k == 13))
def RS (r : Nat → Nat → Nat) : Prop := ∀ n k, dyn n k = false → r n k = sr n k
theorem RS_put {r : Nat → Nat → Nat} {n k t : Nat} (h : RS r) (hd : dyn n k = true) : RS (upr r n k t) := by
  intro a b hab
  by_cases ha : a = n
  · subst ha
    by_cases hb : b = k
    · subst hb; rw [hd] at hab; cases hab
    · rw [upr_k r t hb]; exact h a b hab
  · rw [upr_n r t ha]; exact h a b hab
theorem kd_part {n : Nat} (h1 : 37 ≤ n) (h2 : n < 96) : kd n = 4 := by unfold kd; rw [if_neg (by omega), if_pos h2]
theorem kd_row {j : Nat} (h : j < 40) : kd (96 + 3 * j) = 6 := by unfold kd; rw [if_neg (by omega), if_neg (by omega), if_pos (by omega), if_pos (by omega)]
theorem kd_rowa {j t : Nat} (h : j < 40) (h1 : 1 ≤ t) (h2 : t < 3) : kd (96 + 3 * j + t) = 13 := by unfold kd; rw [if_neg (by omega), if_neg (by omega), if_pos (by omega), if_neg (by omega)]
theorem ln_rowa {j t : Nat} (h : j < 40) (h2 : t < 3) : ln (96 + 3 * j + t) = 4 := by unfold ln; rw [if_neg (by omega), if_neg (by omega), if_pos (by omega)]
theorem kd_case {n : Nat} (h1 : 216 ≤ n) (h2 : n < 240) : kd n = 0 := by unfold kd; rw [if_neg (by omega), if_neg (by omega), if_neg (by omega), if_pos h2]
theorem kd_expr {j t : Nat} (h : j < 13) (ht : t < 9) : kd (240 + 9 * j + t) = kE.getD t 0 := by unfold kd; rw [if_neg (by omega), if_neg (by omega), if_neg (by omega), if_neg (by omega), if_pos (by omega), show (240 + 9 * j + t - 240) % 9 = t by omega]
theorem ln_expr {j t : Nat} (h : j < 13) (ht : t < 9) : ln (240 + 9 * j + t) = lE.getD t 0 := by unfold ln; rw [if_neg (by omega), if_neg (by omega), if_neg (by omega), if_neg (by omega), if_pos (by omega), show (240 + 9 * j + t - 240) % 9 = t by omega]
theorem kd_tag {j : Nat} (h : j < 11) : kd (357 + 2 * j) = 9 := by unfold kd; rw [if_neg (by omega), if_neg (by omega), if_neg (by omega), if_neg (by omega), if_neg (by omega), if_pos (by omega), if_pos (by omega)]
theorem kd_taga {j : Nat} (h : j < 11) : kd (357 + 2 * j + 1) = 14 := by unfold kd; rw [if_neg (by omega), if_neg (by omega), if_neg (by omega), if_neg (by omega), if_neg (by omega), if_pos (by omega), if_neg (by omega)]
theorem ln_taga {j : Nat} (h : j < 11) : ln (357 + 2 * j + 1) = 40 := by unfold ln; rw [if_neg (by omega), if_neg (by omega), if_neg (by omega), if_neg (by omega), if_neg (by omega), if_pos (by omega)]
theorem sr_mid {n k : Nat} (h1 : 37 ≤ n) (h2 : n < 216) : sr n k = n + k + 1 := by unfold sr; rw [if_neg (by omega), if_pos h2]
theorem sr_expr {n k : Nat} (h1 : 216 ≤ n) (h2 : n < 357) : sr n k = n + [1, 2, 0, 3, 4, 0, 0, 5, 6, 7, 8].getD k 0 := by unfold sr; rw [if_neg (by omega), if_neg (by omega), if_pos h2]
theorem sr_tag {n k : Nat} (h1 : 357 ≤ n) : sr n k = n + 1 := by unfold sr; rw [if_neg (by omega), if_neg (by omega), if_neg (by omega)]
