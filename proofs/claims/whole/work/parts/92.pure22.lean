abbrev SF : List (Nat × Nat) := [(55, 0)]
theorem cell_go {R : RK} {q t c P T Y : Row} {k : Nat} (hk : 1 ≤ k) (eP : P = cpR q (fun k => (vvG R q t c k).1) k) (eT : T = cpR t (fun k => (vvG R q t c k).2.1) k) (eY : Y = cpR c (fun k => (vvG R q t c k).2.2) k) (ho : R.2.2.2.2.1 k = 0) :
    upd P k (vlvG (R.2.2.2.1 k) (R.2.2.2.2.2.2.2.2 k) (R.2.2.2.2.2.1 k) (P k) (T k) (Y k)).1 = cpR q (fun k => (vvG R q t c k).1) (k + 1) ∧
    upd T k (vlvG (R.2.2.2.1 k) (R.2.2.2.2.2.2.2.2 k) (R.2.2.2.2.2.1 k) (P k) (T k) (Y k)).2.1 = cpR t (fun k => (vvG R q t c k).2.1) (k + 1) ∧
    upd Y k (vlvG (R.2.2.2.1 k) (R.2.2.2.2.2.2.2.2 k) (R.2.2.2.2.2.1 k) (P k) (T k) (Y k)).2.2 = cpR c (fun k => (vvG R q t c k).2.2) (k + 1) := by
  have a : P k = q k := by rw [eP, cpR_c]
  have b : T k = t k := by rw [eT, cpR_c]
  have d : Y k = c k := by rw [eY, cpR_c]
  have e : vvG R q t c k = vlvG (R.2.2.2.1 k) (R.2.2.2.2.2.2.2.2 k) (R.2.2.2.2.2.1 k) (P k) (T k) (Y k) := by
    simp only [vvG]; rw [if_pos ho, a, b, d]
  rw [← e, ← cpR_s _ _ hk, ← cpR_s _ _ hk, ← cpR_s _ _ hk, ← eP, ← eT, ← eY]
  exact ⟨rfl, rfl, rfl⟩
theorem cell_no {R : RK} {q t c P T Y : Row} {k : Nat} (hk : 1 ≤ k) (eP : P = cpR q (fun k => (vvG R q t c k).1) k) (eT : T = cpR t (fun k => (vvG R q t c k).2.1) k) (eY : Y = cpR c (fun k => (vvG R q t c k).2.2) k) (ho : ¬ R.2.2.2.2.1 k = 0) :
    P = cpR q (fun k => (vvG R q t c k).1) (k + 1) ∧ T = cpR t (fun k => (vvG R q t c k).2.1) (k + 1) ∧ Y = cpR c (fun k => (vvG R q t c k).2.2) (k + 1) := by
  have a : P k = q k := by rw [eP, cpR_c]
  have b : T k = t k := by rw [eT, cpR_c]
  have d : Y k = c k := by rw [eY, cpR_c]
  have e : vvG R q t c k = (P k, T k, Y k) := by
    simp only [vvG]; rw [if_neg ho, a, b, d]
  rw [← cpR_s _ _ hk, ← cpR_s _ _ hk, ← cpR_s _ _ hk, ← eP, ← eT, ← eY, e, upd_id, upd_id, upd_id]
  exact ⟨rfl, rfl, rfl⟩
/-- ticks from t on -/
def plG (R : RK) (L : LV) (df pa pf : Int32) : Nat → Int32 → PTC → PTC
  | 0, _, x => x
  | n + 1, t, x => plG R L df pa pf n (t + 1) (tkG R L df pa pf t x)
/-- a train taken in an order -/
def tkR (f t7 : Row) (off : Nat) (o : Row) (n : Nat) : Row := fun k => if 1 ≤ k ∧ k < n + 1 then t7 (off + (o (k - 1)).toNatClampNeg) else f k
theorem tkR_s (f t7 o : Row) (off : Nat) {c : Nat} (h : 1 ≤ c) : upd (tkR f t7 off o (c - 1)) c (t7 (off + (o (c - 1)).toNatClampNeg)) = tkR f t7 off o c := by
  funext k
  by_cases q : k = c
  · subst q; rw [upd_s]; simp only [tkR]; rw [if_pos ⟨h, by omega⟩]
  · rw [upd_n _ _ q]; simp only [tkR]
    by_cases e : 1 ≤ k ∧ k < c - 1 + 1
    · rw [if_pos e, if_pos ⟨e.1, by omega⟩]
    · rw [if_neg e, if_neg (by omega)]
theorem tkR_0 (f t7 o : Row) (off : Nat) : tkR f t7 off o 0 = f := by funext k; simp only [tkR]; rw [if_neg (by omega)]
def wgR (t7 o : Row) : Nat → Int32
  | 0 => 90
  | k + 1 => wgR t7 o k + t7 (32 + (o k).toNatClampNeg)
theorem off_in {c : Int32} {off : Int32} {K : Nat} (h1 : 0 ≤ c) (h2 : c < 16) (h3 : 0 ≤ off) (h4 : off < 1000) (hK : off.toNatClampNeg + 16 ≤ K) (hK2 : K < 2 ^ 31) : vp_in (off + c) K ∧ (off + c).toNatClampNeg = off.toNatClampNeg + c.toNatClampNeg := by
  have e := cl_add h3 h1 (show off < 1000000 by grind) (show c < 1000000 by grind)
  have e2 := (cl_lt h1 (show (0 : Int32) ≤ 16 by decide)).mpr h2
  have e3 : (16 : Int32).toNatClampNeg = 16 := rfl
  exact ⟨vp_x (by grind) (by omega) hK2, e⟩
