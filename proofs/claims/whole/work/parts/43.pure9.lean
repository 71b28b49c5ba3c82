/-- some cars are out by a set's bits -/
def setOut (o br : Row) (s : Int32) : Nat → Row
  | 0 => o
  | i + 1 => upd (setOut o br s i) (br i).toNatClampNeg ((s >>> (nI i &&& 31)) &&& 1)
theorem setOut_n (o br : Row) (s : Int32) : ∀ (n j : Nat), (∀ i, i < n → (br i).toNatClampNeg ≠ j) → setOut o br s n j = o j := by
  intro n
  induction n with
  | zero => intro j _; rfl
  | succ n ih =>
    intro j h
    simp only [setOut]
    rw [upd_n _ _ (fun q => h n (by omega) q.symm)]
    exact ih j (fun i hi => h i (by omega))
theorem setOut_b {o o2 br : Row} {n : Nat} (h : ∀ j, (∀ i, i < n → (br i).toNatClampNeg ≠ j) → o2 j = o j) (s : Int32) : ∀ m, m ≤ n → ∀ j, (∀ i, m ≤ i → i < n → (br i).toNatClampNeg ≠ j) → setOut o2 br s m j = setOut o br s m j := by
  intro m
  induction m with
  | zero => intro _ j hj; exact h j (fun i hi => hj i (by omega) hi)
  | succ m ih =>
    intro hm j hj
    simp only [setOut]
    by_cases q : j = (br m).toNatClampNeg
    · subst q; rw [upd_s, upd_s]
    · rw [upd_n _ _ q, upd_n _ _ q]
      refine ih (by omega) j (fun i h1 h2 => ?_)
      by_cases e : i = m
      · subst e; exact fun z => q z.symm
      · exact hj i (by omega) h2
theorem setOut_e {o o2 br : Row} {n : Nat} (h : ∀ j, (∀ i, i < n → (br i).toNatClampNeg ≠ j) → o2 j = o j) (s : Int32) : setOut o2 br s n = setOut o br s n := by
  funext j
  exact setOut_b h s n (Nat.le_refl _) j (fun i h1 h2 => by omega)
/-- do all choices of k stop: fuel, the set at hand -/
def swR (G : Int32 → Int32) (k : Int32) : Nat → Int32 → Int32
  | 0, _ => 1
  | f + 1, s => if bcF s = k ∧ G s = (-1) then 0 else swR G k f (s + 1)
theorem shl_b {n : Int32} (h0 : 0 ≤ n) (h1 : n ≤ 10) : 1 ≤ (1 : Int32) <<< (n &&& 31) ∧ (1 : Int32) <<< (n &&& 31) ≤ 1024 := by
  rw [le_toInt] at h0 h1
  have k0 : (0 : Int32).toInt = 0 := rfl
  have k1 : (10 : Int32).toInt = 10 := rfl
  have h : n.toInt = 0 ∨ n.toInt = 1 ∨ n.toInt = 2 ∨ n.toInt = 3 ∨ n.toInt = 4 ∨ n.toInt = 5 ∨ n.toInt = 6 ∨ n.toInt = 7 ∨ n.toInt = 8 ∨ n.toInt = 9 ∨ n.toInt = 10 := by omega
  rcases h with h | h | h | h | h | h | h | h | h | h | h
  · rw [show n = 0 from Int32.toInt_inj.mp (h.trans (by decide))]; decide
  · rw [show n = 1 from Int32.toInt_inj.mp (h.trans (by decide))]; decide
  · rw [show n = 2 from Int32.toInt_inj.mp (h.trans (by decide))]; decide
  · rw [show n = 3 from Int32.toInt_inj.mp (h.trans (by decide))]; decide
  · rw [show n = 4 from Int32.toInt_inj.mp (h.trans (by decide))]; decide
  · rw [show n = 5 from Int32.toInt_inj.mp (h.trans (by decide))]; decide
  · rw [show n = 6 from Int32.toInt_inj.mp (h.trans (by decide))]; decide
  · rw [show n = 7 from Int32.toInt_inj.mp (h.trans (by decide))]; decide
  · rw [show n = 8 from Int32.toInt_inj.mp (h.trans (by decide))]; decide
  · rw [show n = 9 from Int32.toInt_inj.mp (h.trans (by decide))]; decide
  · rw [show n = 10 from Int32.toInt_inj.mp (h.trans (by decide))]; decide
