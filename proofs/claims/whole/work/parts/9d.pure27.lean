def bvN (s : Int32) : Nat := s.toBitVec.toNat
theorem bvN_lt {s : Int32} (h : ¬ s = 0) : bvN (s &&& (s - 1)) < bvN s := by
  have h0 : bvN s ≠ 0 := by
    intro q
    apply h
    apply Int32.toBitVec_inj.mp
    apply BitVec.eq_of_toNat_eq
    exact q
  have e1 : (s - 1).toBitVec.toNat = bvN s - 1 := by
    show (s.toBitVec - (1 : Int32).toBitVec).toNat = bvN s - 1
    have k1 : (1 : Int32).toBitVec.toNat = 1 := rfl
    rw [BitVec.toNat_sub, k1]
    have := s.toBitVec.isLt
    simp only [bvN] at h0 ⊢
    omega
  have e2 : bvN (s &&& (s - 1)) ≤ (s - 1).toBitVec.toNat := by
    show (s.toBitVec &&& (s - 1).toBitVec).toNat ≤ _
    rw [BitVec.toNat_and]
    exact Nat.and_le_right
  omega
theorem btR_eq : ∀ (f g : Nat) (n s : Int32), bvN s ≤ f → bvN s ≤ g → btR f n s = btR g n s := by
  intro f
  induction f with
  | zero =>
    intro g n s h _
    have z : s = 0 := by
      apply Int32.toBitVec_inj.mp
      apply BitVec.eq_of_toNat_eq
      exact Nat.le_zero.mp h
    subst z
    cases g <;> rfl
  | succ f ih =>
    intro g n s h h2
    by_cases q : s = 0
    · subst q
      cases g <;> rfl
    · have l := bvN_lt q
      obtain ⟨m, rfl⟩ : ∃ m, g = m + 1 := ⟨g - 1, by omega⟩
      simp only [btR]
      rw [if_neg q, if_neg q]
      exact ih m _ _ (by omega) (by omega)
def bits (s : Int32) : Int32 := btR (bvN s) 0 s
theorem go_end {lo sz j : Int32} (h0 : 0 ≤ lo) (h1 : lo < 10) (h2 : 1 ≤ j) (h3 : j < 10) (h : sz - j ≤ lo + j ∧ 0 ≤ sz ∧ sz < 10) : ¬ lo.toNatClampNeg + j.toNatClampNeg < sz.toNatClampNeg - j.toNatClampNeg := nx_end h0 h1 h2 h3 h
def ptF (h : Row) (n : Nat) (st : Int32) : Int32 := if ∀ i, i < n → ∀ j, j < i → ¬ (¬ h i = h j ∧ h i &&& st = h j &&& st) then 1 else 0
