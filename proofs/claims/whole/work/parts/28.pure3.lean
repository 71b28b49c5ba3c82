/-! a book of days -/
abbrev RowJ : Type := Nat → Int64
def inB (row : Int64) (wg : Int32) : Int32 := if (row >>> (wg.toInt64 &&& 63)) &&& 1 = 1 then 1 else 0
theorem inB_01 (row : Int64) (wg : Int32) : inB row wg = 0 ∨ inB row wg = 1 := by simp only [inB]; grind
/-- a row of wagons out of the bytes -/
def rowR (f : Row) : Nat → Nat → Int64 → Int64
  | 0, _, acc => acc
  | r + 1, i, acc => if ¬ (0 ≤ f i ∧ f i < 40) ∨ inB acc (f i) = 1 then 0 else rowR f r (i + 1) (acc ||| (1 : Int64) <<< ((f i).toInt64 &&& 63))
theorem rowR_s {f : Row} {r i : Nat} {acc : Int64} (h : ¬ (¬ (0 ≤ f i ∧ f i < 40) ∨ inB acc (f i) = 1)) : rowR f (r + 1) i acc = rowR f r (i + 1) (acc ||| (1 : Int64) <<< ((f i).toInt64 &&& 63)) := by simp only [rowR]; rw [if_neg h]
theorem rowR_0 {f : Row} {r i : Nat} {acc : Int64} (h : ¬ (0 ≤ f i ∧ f i < 40) ∨ inB acc (f i) = 1) : rowR f (r + 1) i acc = 0 := by simp only [rowR]; rw [if_pos h]
/-- do the days up to some fit a bad wagon -/
def exR (rows mends : RowJ) (hots : Row) (wg start : Int32) : Nat → Nat → Int32 → Int32
  | 0, _, _ => 1
  | r + 1, i, bad => if hots i = (if (if nI i = start then 1 else bad) ≠ 0 ∧ inB (rows i) wg ≠ 0 then 1 else 0) then exR rows mends hots wg start r (i + 1) (if inB (mends i) wg ≠ 0 then 0 else (if nI i = start then 1 else bad)) else 0
theorem exR_01 (rows mends : RowJ) (hots : Row) (wg start : Int32) (r i : Nat) (bad : Int32) : exR rows mends hots wg start r i bad = 0 ∨ exR rows mends hots wg start r i bad = 1 := by
  induction r generalizing i bad with
  | zero => exact Or.inr rfl
  | succ r ih =>
    simp only [exR]
    by_cases h : hots i = (if (if nI i = start then 1 else bad) ≠ 0 ∧ inB (rows i) wg ≠ 0 then 1 else 0)
    · rw [if_pos h]; exact ih _ _
    · rw [if_neg h]; exact Or.inl rfl
/-- the latest start below k -/
def lsR (ex : Nat → Int32) : Nat → Int32
  | 0 => (-1)
  | k + 1 => if ex k ≠ 0 then nI k else lsR ex k
abbrev exF (rows mends : RowJ) (hots : Row) (wg d : Int32) : Nat → Int32 := fun s => exR rows mends hots wg (nI s) (d + 1).toNatClampNeg 0 0
abbrev lsF (rows mends : RowJ) (hots : Row) (d : Int32) : Row := fun k => lsR (exF rows mends hots (nI k) d) (d + 1).toNatClampNeg
/-- suspects among the first k wagons -/
def fsR (ls : Row) (f : Row) : Nat → Row × Int32
  | 0 => (f, 0)
  | k + 1 => if ls k ≠ (-1) then (upd (fsR ls f k).1 (fsR ls f k).2.toNatClampNeg (nI k), (fsR ls f k).2 + 1) else fsR ls f k
/-- not mended from i on -/
def bsR (mends : RowJ) (wg : Int32) : Nat → Nat → Int32
  | 0, _ => 1
  | r + 1, i => if inB (mends i) wg ≠ 0 then 0 else bsR mends wg r (i + 1)
/-- all, hot among the first k wagons -/
def foR (ls : Row) (hot : Nat → Prop) [DecidablePred hot] : Nat → Int32 × Int32
  | 0 => (0, 0)
  | k + 1 => if ls k ≠ (-1) then ((foR ls hot k).1 + 1, if hot k then (foR ls hot k).2 + 1 else (foR ls hot k).2) else foR ls hot k
theorem m_dn {i : Int32} (h0 : 0 ≤ i) : (i + (-1) + 1).toNatClampNeg < (i + 1).toNatClampNeg ∨ i = 2147483647 := by
  by_cases h : i = 2147483647
  · exact Or.inr h
  · refine Or.inl ?_
    have e : i + (-1) + 1 = i := by grind
    rw [e, cl_succ h0 (by grind)]
    omega
theorem m_dnn {N i : Int32} (h0 : 0 ≤ i) (h : i < N) : (N - i).toNatClampNeg = (N - (i + 1)).toNatClampNeg + 1 := by
  have h1 : (N - i) = (N - (i + 1)) + 1 := by grind
  rw [h1, cl_succ (by grind) (by grind)]
theorem lsR_c (ex : Nat → Int32) {n : Int32} (h : 0 ≤ n) : lsR ex n.toNatClampNeg = (-1) ∨ (0 ≤ lsR ex n.toNatClampNeg ∧ lsR ex n.toNatClampNeg < n) := by
  have key : ∀ k : Nat, k < 2 ^ 31 → lsR ex k = (-1) ∨ ∃ j : Nat, j < k ∧ lsR ex k = nI j := by
    intro k
    induction k with
    | zero => intro _; exact Or.inl rfl
    | succ k ih =>
      intro hk
      simp only [lsR]
      split
      · exact Or.inr ⟨k, by omega, rfl⟩
      · rcases ih (by omega) with q | ⟨j, h1, h2⟩
        · exact Or.inl q
        · exact Or.inr ⟨j, by omega, h2⟩
  have hn : n.toNatClampNeg < 2 ^ 31 := by
    have := cl_toInt h
    have := Int32.toInt_lt n
    omega
  rcases key _ hn with q | ⟨j, h1, h2⟩
  · exact Or.inl q
  · rw [h2]
    refine Or.inr ⟨nI_pos' (by omega), ?_⟩
    rw [in_toInt, nI_toInt (by omega), ← cl_toInt h]
    omega
def put4 (f : Row) (s n : Int32) : Row := upd (upd (upd (upd f s.toNatClampNeg ((n >>> (24 &&& 31)) &&& 255)) (s + 1).toNatClampNeg ((n >>> (16 &&& 31)) &&& 255)) ((s + 1) + 1).toNatClampNeg ((n >>> (8 &&& 31)) &&& 255)) (((s + 1) + 1) + 1).toNatClampNeg ((n >>> (0 &&& 31)) &&& 255)
