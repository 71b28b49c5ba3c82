abbrev NOL : Int32 := 2147483647
/-- the SPAN of a run, within a limit; -1: none -/
def runV (lim : Int32) (R : RK) (wt : Row) (L : LV) (g sp sn : Int32) : Int32 := spanV lim (spanX lim R wt L 600 (st0 R.2.1, rd0 g sp sn))
def runP (lim : Int32) (R : RK) (wt : Row) (L : LV) (k tk g sp sn : Int32) : Int32 := spanV lim (spanX lim R wt L 600 (((st0 R.2.1).1, (st0 R.2.1).2.1, (st0 R.2.1).2.2.1, (st0 R.2.1).2.2.2.1, 0, 0, 0, k, tk, 0), rd0 g sp sn))
def ordR (f : Row) (c : Nat) : Row := fun k => if k < c then nI (k + 1) else f k
theorem ordR_0 (f : Row) : ordR f 0 = f := by funext k; simp [ordR]
theorem ordR_s (f : Row) {i : Int32} (h : 0 ≤ i) (h2 : i < 100) : upd (ordR f i.toNatClampNeg) i.toNatClampNeg (i + 1) = ordR f (i.toNatClampNeg + 1) := by
  funext k
  by_cases q : k = i.toNatClampNeg
  · subst q
    rw [upd_s]
    simp only [ordR]
    rw [if_pos (by omega), ← nI_1, nI_cl h]
  · rw [upd_n _ _ q]; simp only [ordR]; by_cases h3 : k < i.toNatClampNeg
    · rw [if_pos h3, if_pos (by omega)]
    · rw [if_neg h3, if_neg (by omega)]
/-- cars by an order: place k + 1 takes car o k -/
def layR (f g : Row) (o : Row) (c : Nat) : Row := fun k => if 1 ≤ k ∧ k < c + 1 then g (o (k - 1)).toNatClampNeg else f k
theorem layR_0 (f g o : Row) : layR f g o 0 = f := by funext k; simp only [layR]; rw [if_neg (by omega)]
theorem layR_s (f g o : Row) {i : Int32} (h : 0 ≤ i) (h2 : i < 100) : upd (layR f g o i.toNatClampNeg) (i + 1).toNatClampNeg (g (o i.toNatClampNeg).toNatClampNeg) = layR f g o (i.toNatClampNeg + 1) := by
  funext k
  rw [cl_succ h (by grind)]
  by_cases q : k = i.toNatClampNeg + 1
  · subst q
    rw [upd_s]
    simp only [layR]
    rw [if_pos (by omega), Nat.add_sub_cancel]
  · rw [upd_n _ _ q]; simp only [layR]; by_cases h3 : 1 ≤ k ∧ k < i.toNatClampNeg + 1
    · rw [if_pos h3, if_pos (by omega)]
    · rw [if_neg h3, if_neg (by omega)]
