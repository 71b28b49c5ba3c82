abbrev SR : List (Nat × Nat) := [(46, 0), (47, 0), (48, 0), (49, 0), (50, 0), (51, 0), (52, 0), (53, 0), (54, 0), (55, 0), (1098, 0), (1099, 0), (1100, 0), (1101, 0), (1103, 0), (1104, 0), (1105, 0)]
/-! the reference: spans -/
def bgG (R : RK) (p t c : Row) : PTC := (fillR p R.2.1 (R.1 + 1).toNatClampNeg, fillR t R.2.1 (R.1 + 1).toNatClampNeg, fillR c 0 (R.1 + 1).toNatClampNeg)
/-- ticks done, speed, way, fastest, air -/
abbrev SX : Type := Int32 × Int32 × Int32 × Int32 × PTC
def gnG (wt g b : Int32) : Int32 := (wt * g - 4 * b) / wt
def spS (R : RK) (wt : Int32) (L : LV) (df pa pf g sn : Int32) (x : SX) : SX :=
  let y := tkG R L df pa pf (x.1 + 1) x.2.2.2.2
  let v0 := x.2.1 + gnG wt g (brkR R.2.2.2.2.1 y.2.2 sn (R.1 + 1).toNatClampNeg)
  let v := if 0 ≤ v0 then v0 else 0
  (x.1 + 1, v, x.2.2.1 + v, (if x.2.2.2.1 < v then v else x.2.2.2.1), y)
def spG (R : RK) (wt : Int32) (L : LV) (df pa pf g sn : Int32) : Nat → SX → SX
  | 0, x => x
  | n + 1, x => if 0 < x.2.1 then spG R wt L df pa pf g sn n (spS R wt L df pa pf g sn x) else x
def spV (x : SX) : Int32 := if x.2.1 = 0 then x.2.2.1 else (-1)
def sp0 (R : RK) (sp : Int32) (p t c : Row) : SX := (0, sp, 0, sp, bgG R p t c)
def heG (R : RK) (L : LV) (c : Int32) : Nat → Int32 → PTC → Int32
  | 0, _, _ => (-1)
  | n + 1, t, x => if 0 < (tkG R L 601 0 601 t x).2.2 c.toNatClampNeg then t else heG R L c n (t + 1) (tkG R L 601 0 601 t x)
def ea2 (R : RK) (L : LV) : Nat → Int32 → Int32 → PTC → Int32
  | 0, _, _, _ => (-1)
  | n + 1, t, hd, x => if hd ≠ 0 ∧ anyR (tkG R L 601 0 601 t x).2.2 (R.1 + 1).toNatClampNeg = 0 then t else ea2 R L n (t + 1) (if hd ≠ 0 ∨ anyR (tkG R L 601 0 601 t x).2.2 (R.1 + 1).toNatClampNeg ≠ 0 then 1 else 0) (tkG R L 601 0 601 t x)
