/-! plain facts on ints as places, and rows -/
abbrev Row : Type := Nat → Int32
theorem cl_toInt {c : Int32} (h : 0 ≤ c) : (c.toNatClampNeg : Int) = c.toInt := by
  rw [Int32.le_iff_toInt_le] at h
  have h0 : (0 : Int32).toInt = 0 := rfl
  rw [h0] at h
  have : c.toNatClampNeg = c.toInt.toNat := rfl
  rw [this]
  omega
theorem in_toInt {x N : Int32} : x < N ↔ x.toInt < N.toInt := Int32.lt_iff_toInt_lt
theorem le_toInt {x N : Int32} : x ≤ N ↔ x.toInt ≤ N.toInt := Int32.le_iff_toInt_le
theorem add1_toInt {c : Int32} (h : c < 2147483647) : (c + 1).toInt = c.toInt + 1 := by
  rw [in_toInt] at h
  have h1 : (2147483647 : Int32).toInt = 2147483647 := rfl
  have h2 : (1 : Int32).toInt = 1 := rfl
  have h3 := Int32.le_toInt c
  rw [h1] at h
  rw [Int32.toInt_add, h2]
  have h4 : -2147483648 ≤ c.toInt := h3
  rw [Int.bmod_eq_of_le (by omega) (by omega)]
theorem sub1_toInt {c : Int32} (h : 0 ≤ c) : (c - 1).toInt = c.toInt - 1 := by
  rw [le_toInt] at h
  have h1 : (0 : Int32).toInt = 0 := rfl
  have h2 : (1 : Int32).toInt = 1 := rfl
  have h3 := Int32.toInt_lt c
  rw [h1] at h
  rw [Int32.toInt_sub, h2]
  rw [Int.bmod_eq_of_le (by omega) (by omega)]
theorem cl_succ {c : Int32} (h0 : 0 ≤ c) (h : c < 2147483647) : (c + 1).toNatClampNeg = c.toNatClampNeg + 1 := by
  have h1 := cl_toInt h0
  have h2 : 0 ≤ c + 1 := by grind
  have h3 := cl_toInt h2
  have h4 := add1_toInt h
  omega
theorem cl_pred {c : Int32} (h0 : 1 ≤ c) : (c - 1).toNatClampNeg = c.toNatClampNeg - 1 := by
  have h1 := cl_toInt (c := c) (by grind)
  have h3 := cl_toInt (c := c - 1) (by grind)
  have h4 := sub1_toInt (c := c) (by grind)
  omega
theorem cl_lt {x y : Int32} (h0 : 0 ≤ x) (h1 : 0 ≤ y) : x.toNatClampNeg < y.toNatClampNeg ↔ x < y := by
  have a := cl_toInt h0
  have b := cl_toInt h1
  rw [in_toInt]; omega
theorem cl_le {x y : Int32} (h0 : 0 ≤ x) (h1 : 0 ≤ y) : x.toNatClampNeg ≤ y.toNatClampNeg ↔ x ≤ y := by
  have a := cl_toInt h0
  have b := cl_toInt h1
  rw [le_toInt]; omega
theorem cl_inj {x y : Int32} (h0 : 0 ≤ x) (h1 : 0 ≤ y) (h : x.toNatClampNeg = y.toNatClampNeg) : x = y := by
  have a := cl_toInt h0
  have b := cl_toInt h1
  exact Int32.toInt_inj.mp (by omega)
theorem cl_pos {x : Int32} (h0 : 1 ≤ x) : 1 ≤ x.toNatClampNeg := by
  have a := cl_toInt (c := x) (by grind)
  rw [le_toInt] at h0
  have : (1 : Int32).toInt = 1 := rfl
  omega
/-- a loop that counts up to N -/
theorem m_up {c N : Int32} (h0 : 0 ≤ c) (h : c < N) : (N - (c + 1)).toNatClampNeg < (N - c).toNatClampNeg := by
  have h1 : (N - c) = (N - (c + 1)) + 1 := by grind
  rw [h1, cl_succ (by grind) (by grind)]
  omega
theorem upd_id (f : Nat → Int32) (k : Nat) : upd f k (f k) = f := by
  funext j
  by_cases h : j = k
  · subst h; exact pk_us
  · exact pk_un h
theorem upd_s (f : Nat → Int32) (k : Nat) (x : Int32) : upd f k x k = x := pk_us
theorem upd_n (f : Nat → Int32) {k j : Nat} (x : Int32) (h : j ≠ k) : upd f k x j = f j := pk_un h
theorem upd_u (f : Nat → Int32) (k : Nat) (x y : Int32) : upd (upd f k x) k y = upd f k y := by
  funext j
  by_cases h : j = k
  · subst h; rw [upd_s, upd_s]
  · rw [upd_n _ _ h, upd_n _ _ h, upd_n _ _ h]
/-- the first c places are v -/
def fillR (f : Row) (v : Int32) (c : Nat) : Row := fun k => if k < c then v else f k
theorem fillR_0 (f : Row) (v : Int32) : fillR f v 0 = f := by funext k; simp [fillR]
theorem fillR_s (f : Row) (v : Int32) (c : Nat) : upd (fillR f v c) c v = fillR f v (c + 1) := by
  funext k
  by_cases h : k = c
  · subst h; rw [upd_s]; simp [fillR]
  · rw [upd_n _ _ h]; simp only [fillR]; by_cases h2 : k < c
    · rw [if_pos h2, if_pos (by omega)]
    · rw [if_neg h2, if_neg (by omega)]
/-- places 1 up to c are those of g -/
def cpR (f g : Row) (c : Nat) : Row := fun k => if 1 ≤ k ∧ k < c then g k else f k
theorem cpR_1 (f g : Row) : cpR f g 1 = f := by funext k; simp only [cpR]; rw [if_neg (by omega)]
theorem cpR_s (f g : Row) {c : Nat} (h : 1 ≤ c) : upd (cpR f g c) c (g c) = cpR f g (c + 1) := by
  funext k
  by_cases hk : k = c
  · subst hk; rw [upd_s]; simp only [cpR]; rw [if_pos (by omega)]
  · rw [upd_n _ _ hk]; simp only [cpR]; by_cases h2 : 1 ≤ k ∧ k < c
    · rw [if_pos h2, if_pos (by omega)]
    · rw [if_neg h2, if_neg (by omega)]
/-- 90 and the places 1 up to c -/
def wsum (f : Row) : Nat → Int32
  | 0 => 90
  | 1 => 90
  | c + 2 => wsum f (c + 1) + f (c + 1)
theorem wsum_s (f : Row) {c : Nat} (h : 1 ≤ c) : wsum f (c + 1) = wsum f c + f c := by
  obtain ⟨d, rfl⟩ : ∃ d, c = d + 1 := ⟨c - 1, by omega⟩
  rfl
/-- the flows behind cells 1 up to c are done -/
def fwR (p fl : Row) (c : Nat) : Row := fun k => if k + 1 < c then (if 1 ≤ k then p k + fl k else p k) - fl (k + 1) else if 1 ≤ k ∧ k < c then p k + fl k else p k
theorem fwR_1 (p fl : Row) : fwR p fl 1 = p := by
  funext k
  simp only [fwR]
  rw [if_neg (by omega), if_neg (by omega)]
theorem fwR_c (p fl : Row) (c : Nat) : fwR p fl c c = p c := by
  simp only [fwR]
  rw [if_neg (by omega), if_neg (by omega)]
theorem fwR_s (p fl : Row) {c : Nat} (h : 1 ≤ c) : upd (upd (fwR p fl c) (c - 1) (fwR p fl c (c - 1) - fl c)) c (upd (fwR p fl c) (c - 1) (fwR p fl c (c - 1) - fl c) c + fl c) = fwR p fl (c + 1) := by
  funext k
  have e : c - 1 + 1 = c := by omega
  by_cases hk : k = c
  · subst hk
    rw [upd_s, upd_n _ _ (by omega), fwR_c]
    simp only [fwR]
    rw [if_neg (by omega), if_pos (by omega)]
  · rw [upd_n _ _ hk]
    by_cases hk1 : k = c - 1
    · subst hk1
      rw [upd_s]
      simp only [fwR, e]
      grind
    · rw [upd_n _ _ hk1]
      simp only [fwR]
      grind
