/-! the reference: a tick -/
theorem sel_g {a b : Int32} (h : a ≤ b ∨ b ≤ a) : True := trivial
def workG (full feed : Int32) (p : Row) (act am c : Int32) : Row :=
  if act = 0 ∧ p c.toNatClampNeg < full then upd p c.toNatClampNeg (if p c.toNatClampNeg + feed < full then p c.toNatClampNeg + feed else full)
  else if act = 2 then upd p c.toNatClampNeg (if am < p c.toNatClampNeg then p c.toNatClampNeg - am else 0)
  else if act = 3 then upd p c.toNatClampNeg 0 else p
def snG (k : Int32) : Int32 := if k = 0 then 20 else if k = 1 then 10 else 30
def raG (k : Int32) : Int32 := if k = 0 then 20 else if k = 1 then 30 else 12
def eaG (k : Int32) : Int32 := if k = 0 then 30 else if k = 1 then 40 else 12
def vlvG (kind stuck keep p t c : Int32) : Int32 × Int32 × Int32 :=
  if p - t < -snG kind then
    (if stuck = 2 then (p, t, c) else
      ((if kind = 1 then (if 8 < p then p - 8 else 0) else p), t - (if raG kind < -(p - t) then raG kind else -(p - t)),
        if c + 2 * (if raG kind < -(p - t) then raG kind else -(p - t)) < 500 then c + 2 * (if raG kind < -(p - t) then raG kind else -(p - t)) else 500))
  else if snG kind < p - t then
    (p - (if (p - t) / 2 < 10 then (p - t) / 2 else 10), t + (if (p - t) / 2 < 10 then (p - t) / 2 else 10),
      if stuck ≠ 1 ∧ 100 * keep < c then (if 100 * keep < c - eaG kind then c - eaG kind else 100 * keep) else c)
  else (p, t, c)
def saR (lg : Row) : Nat → Nat → Int32 → Int32
  | 0, k, _ => nI k - 1
  | m + 1, k, t => if t ≤ lg k then nI k else saR lg m (k + 1) (t - lg k)
def lkG (q leak : Row) : Row := fun k => q k - q k * leak k / 1000
def vvG (R : RK) (q t c : Row) (k : Nat) : Int32 × Int32 × Int32 := if R.2.2.2.2.1 k = 0 then vlvG (R.2.2.2.1 k) (R.2.2.2.2.2.2.2.2 k) (R.2.2.2.2.2.1 k) (q k) (t k) (c k) else (q k, t k, c k)
abbrev PTC : Type := Row × Row × Row
def idQ (R : RK) (bo act am br : Int32) (p : Row) : Row :=
  flowF R.1 R.2.2.2.2.2.2.2.1 (if bo ≠ 0 then workG R.2.1 R.2.2.1 (workG R.2.1 R.2.2.1 p act am 0) act am R.1 else workG R.2.1 R.2.2.1 p act am 0) br
def idV (R : RK) (q t c : Row) : PTC :=
  (cpR q (fun k => (vvG R q t c k).1) (R.1 + 1).toNatClampNeg, cpR t (fun k => (vvG R q t c k).2.1) (R.1 + 1).toNatClampNeg, cpR c (fun k => (vvG R q t c k).2.2) (R.1 + 1).toNatClampNeg)
def idT (R : RK) (bo act am br : Int32) (x : PTC) : PTC :=
  idV R (cpR (idQ R bo act am br x.1) (lkG (idQ R bo act am br x.1) R.2.2.2.2.2.2.1) (R.1 + 1).toNatClampNeg) x.2.1 x.2.2
/-- the handle: size, both, what, draw, long -/
def whG (L : LV) (t df : Int32) : Int32 := if df ≤ t then 3 else if saR L.2.2.2.2 L.1.toNatClampNeg 0 t = (-1) then 1 else L.2.2.1 (saR L.2.2.2.2 L.1.toNatClampNeg 0 t).toNatClampNeg
def drG (L : LV) (t : Int32) : Int32 := if saR L.2.2.2.2 L.1.toNatClampNeg 0 t = (-1) then 0 else L.2.2.2.1 (saR L.2.2.2.2 L.1.toNatClampNeg 0 t).toNatClampNeg
def brG (t pa pf : Int32) : Int32 := if pf ≤ t then pa else (-1)
def tkG (R : RK) (L : LV) (df pa pf t : Int32) (x : PTC) : PTC := idT R L.2.1 (whG L t df) (drG L t) (brG t pa pf) x
theorem saR_b (lg : Row) : ∀ (m k : Nat) (t : Int32), k + m < 2 ^ 31 → saR lg m k t = nI (k + m) - 1 ∨ ∃ j : Nat, k ≤ j ∧ j < k + m ∧ saR lg m k t = nI j := by
  intro m
  induction m with
  | zero => intro k t _; exact Or.inl rfl
  | succ m ih =>
    intro k t h
    simp only [saR]
    split
    · exact Or.inr ⟨k, Nat.le_refl _, by omega, rfl⟩
    · rcases ih (k + 1) (t - lg k) (by omega) with q | ⟨j, a, b, c⟩
      · exact Or.inl (by rw [q]; congr 2; omega)
      · exact Or.inr ⟨j, by omega, by omega, c⟩
theorem saR_q {lg : Row} {n t : Int32} (h1 : 0 ≤ n) (h2 : n ≤ 20) : (-1) ≤ saR lg n.toNatClampNeg 0 t ∧ saR lg n.toNatClampNeg 0 t < 20 ∧ saR lg n.toNatClampNeg 0 t < n ∨ n = 0 ∧ saR lg n.toNatClampNeg 0 t = (-1) := by
  have e : n.toNatClampNeg ≤ 20 := (cl_le h1 (show (0 : Int32) ≤ 20 by decide)).mpr h2
  have e2 := nI_cl h1
  rcases saR_b lg n.toNatClampNeg 0 t (by omega) with q | ⟨j, a, b, c⟩
  · rw [Nat.zero_add, e2] at q
    rw [q]
    by_cases h : n = 0
    · exact Or.inr ⟨h, by rw [h]; decide⟩
    · exact Or.inl ⟨by grind, by grind, by grind⟩
  · rw [c]
    have f1 : 0 ≤ nI j := nI_le (a := 0) (Nat.zero_le _) (by omega)
    have f2 : nI j < n := by rw [← e2, in_toInt, nI_toInt (by omega), nI_toInt (by omega)]; omega
    exact Or.inl ⟨by grind, by grind, f2⟩
theorem flow_cp {n : Int32} {p fl f0 : Row} : fwR p (cpR f0 fl (n + 1).toNatClampNeg) (n + 1).toNatClampNeg = fwR p fl (n + 1).toNatClampNeg := fwR_re (fun k h1 h2 => by simp only [cpR]; rw [if_pos ⟨h1, h2⟩])
