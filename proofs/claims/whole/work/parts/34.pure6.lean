/-! the next order -/
def loR (f : Row) : Nat → Nat
  | 0 => 0
  | k + 1 => if f (k + 1) < f k then loR f k else k + 1
def hiR (f : Row) (lo : Nat) : Nat → Nat
  | 0 => 0
  | k + 1 => if lo < k + 1 ∧ f (k + 1) < f lo then hiR f lo k else k + 1
def swp (f : Row) (i j : Nat) : Row := upd (upd f i (f j)) j (f i)
def rvR (lo sz : Nat) : Nat → Nat → Row → Row
  | 0, _, f => f
  | n + 1, i, f => if lo + i < sz - i then rvR lo sz n (i + 1) (swp f (lo + i) (sz - i)) else f
theorem rvR_stop {lo sz n i : Nat} {f : Row} (h : ¬ lo + i < sz - i) : rvR lo sz n i f = f := by
  cases n with
  | zero => rfl
  | succ n => simp only [rvR]; rw [if_neg h]
theorem rvR_go {lo sz n i : Nat} {f : Row} (h : lo + i < sz - i) : rvR lo sz (n + 1) i f = rvR lo sz n (i + 1) (swp f (lo + i) (sz - i)) := by simp only [rvR]; rw [if_pos h]
def nxt (f : Row) (n : Nat) : Row × Int32 := if loR f (n - 1) = 0 then (f, 0) else (rvR (loR f (n - 1) - 1) n n 1 (swp f (loR f (n - 1) - 1) (hiR f (loR f (n - 1) - 1) (n - 1))), 1)
theorem cl_add {x y : Int32} (h1 : 0 ≤ x) (h2 : 0 ≤ y) (h3 : x < 1000000) (h4 : y < 1000000) : (x + y).toNatClampNeg = x.toNatClampNeg + y.toNatClampNeg := by
  have a := cl_toInt h1
  have b := cl_toInt h2
  have c := cl_toInt (c := x + y) (by grind)
  have e : (x + y).toInt = x.toInt + y.toInt := by
    rw [in_toInt] at h3 h4
    rw [le_toInt] at h1 h2
    have k1 : (1000000 : Int32).toInt = 1000000 := rfl
    have k0 : (0 : Int32).toInt = 0 := rfl
    rw [Int32.toInt_add, Int.bmod_eq_of_le (by omega) (by omega)]
  omega
theorem cl_sub {x y : Int32} (h1 : 0 ≤ y) (h2 : y ≤ x) : (x - y).toNatClampNeg = x.toNatClampNeg - y.toNatClampNeg := by
  have a := cl_toInt (c := x) (by grind)
  have b := cl_toInt h1
  have c := cl_toInt (c := x - y) (by grind)
  have e : (x - y).toInt = x.toInt - y.toInt := by
    have u1 := Int32.toInt_lt x
    rw [le_toInt] at h1 h2
    have k0 : (0 : Int32).toInt = 0 := rfl
    rw [Int32.toInt_sub, Int.bmod_eq_of_le (by omega) (by omega)]
  omega
theorem loR_le (f : Row) (k : Nat) : loR f k ≤ k := by
  induction k with
  | zero => exact Nat.le_refl _
  | succ k ih => simp only [loR]; split <;> omega
theorem hiR_le (f : Row) (lo k : Nat) : hiR f lo k ≤ k := by
  induction k with
  | zero => exact Nat.le_refl _
  | succ k ih => simp only [hiR]; split <;> omega
theorem lo_step {f : Row} {i : Int32} (h0 : 0 ≤ i) (h1 : i < 100) (h : f (i + 1).toNatClampNeg < f i.toNatClampNeg) : loR f (i + 1).toNatClampNeg = loR f i.toNatClampNeg := by
  rw [cl_succ h0 (by grind)] at h ⊢
  simp only [loR]
  rw [if_pos h]
theorem lo_stop {f : Row} {i : Int32} (h0 : 0 ≤ i) (h1 : i < 100) (h : ¬ f (i + 1).toNatClampNeg < f i.toNatClampNeg) : loR f (i + 1).toNatClampNeg = (i + 1).toNatClampNeg := by
  rw [cl_succ h0 (by grind)] at h ⊢
  simp only [loR]
  rw [if_neg h]
theorem hiR_go {f : Row} {lo m : Nat} (q : lo < m + 1) (h : f (m + 1) < f lo) : hiR f lo (m + 1) = hiR f lo m := by simp only [hiR]; rw [if_pos ⟨q, h⟩]
theorem hi_step {f : Row} {lo i : Int32} (hl : 0 ≤ lo) (h0 : lo < i) (h1 : i < 100) (h : f i.toNatClampNeg < f lo.toNatClampNeg) : hiR f lo.toNatClampNeg i.toNatClampNeg = hiR f lo.toNatClampNeg (i + (-1)).toNatClampNeg := by
  have q := (cl_lt hl (show (0 : Int32) ≤ i by grind)).mpr h0
  have e2 : i + (-1) + 1 = i := by grind
  have e := cl_succ (c := i + (-1)) (by grind) (by grind)
  rw [e2] at e
  generalize (i + (-1)).toNatClampNeg = m at e ⊢
  generalize i.toNatClampNeg = n at e h q ⊢
  generalize lo.toNatClampNeg = l at h q ⊢
  subst e
  exact hiR_go q h
theorem hi_stop {f : Row} {lo i : Int32} (hl : 0 ≤ lo) (hi : lo ≤ i) (h : ¬ (lo < i ∧ f i.toNatClampNeg < f lo.toNatClampNeg)) : hiR f lo.toNatClampNeg i.toNatClampNeg = i.toNatClampNeg := by
  have q := cl_lt hl (show (0 : Int32) ≤ i by grind)
  cases e : i.toNatClampNeg with
  | zero => rfl
  | succ k =>
    rw [e] at h q
    simp only [hiR]
    rw [if_neg (fun z => h ⟨q.mp z.1, z.2⟩)]
theorem nx_end {lo sz j : Int32} (h0 : 0 ≤ lo) (h1 : lo < 10) (h2 : 1 ≤ j) (h3 : j < 10) (h : sz - j ≤ lo + j ∧ 0 ≤ sz ∧ sz < 10) : ¬ lo.toNatClampNeg + j.toNatClampNeg < sz.toNatClampNeg - j.toNatClampNeg := by
  by_cases q : j ≤ sz
  · rw [← cl_add h0 (by grind) (by grind) (by grind), ← cl_sub (by grind) q, cl_lt (by grind) (by grind)]
    grind
  · have e := (cl_lt (x := sz) (y := j) (by grind) (by grind)).mpr (by grind)
    omega
