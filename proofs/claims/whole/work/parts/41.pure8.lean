/-- the cars that are not out, of the first k - 1 -/
def bkR (out b : Row) : Nat → Row × Int32
  | 0 => (b, 0)
  | 1 => (b, 0)
  | k + 2 => if out (k + 1) = 0 then (upd (bkR out b (k + 1)).1 (bkR out b (k + 1)).2.toNatClampNeg (nI (k + 1)), (bkR out b (k + 1)).2 + 1) else bkR out b (k + 1)
theorem bkR_s (out b : Row) {k : Nat} (h : 1 ≤ k) : bkR out b (k + 1) = if out k = 0 then (upd (bkR out b k).1 (bkR out b k).2.toNatClampNeg (nI k), (bkR out b k).2 + 1) else bkR out b k := by
  obtain ⟨d, rfl⟩ : ∃ d, k = d + 1 := ⟨k - 1, by omega⟩
  rfl
