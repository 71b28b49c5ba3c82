theorem eq601 {t : Int32} (h1 : t ≤ 601) (h2 : 600 < t) : t = 601 := by grind
theorem irF_sp {g s n : Int32} (h : ¬ irF g s n = 0) : 0 ≤ s := by
  by_cases q : ((-40) ≤ g ∧ g ≤ 40) ∧ (0 ≤ s ∧ s ≤ 3000) ∧ (0 ≤ n ∧ n ≤ 90)
  · exact q.2.1.1
  · exact absurd (if_neg q) h
/-- the greatest below n for which the span is within -/
def hpR (F : Nat → Int32) (m : Int32) : Nat → Int32
  | 0 => (-1)
  | k + 1 => if F k ≠ (-1) ∧ F k ≤ m then nI k else hpR F m k
