def brkR (out cyl : Row) (snow : Int32) : Nat → Int32
  | 0 => 0
  | 1 => 0
  | k + 2 => if out (k + 1) = 0 then brkR out cyl snow (k + 1) + cyl (k + 1) * (100 - snow) / 100 else brkR out cyl snow (k + 1)
theorem brkR_s (out cyl : Row) (snow : Int32) {k : Nat} (h : 1 ≤ k) : brkR out cyl snow (k + 1) = if out k = 0 then brkR out cyl snow k + cyl k * (100 - snow) / 100 else brkR out cyl snow k := by
  obtain ⟨d, rfl⟩ : ∃ d, k = d + 1 := ⟨k - 1, by omega⟩
  rfl
def gainF (whole grade b : Int32) : Int32 := if 0 < whole then (whole * grade - 4 * b) / whole else 0
/-- grade snow gain way speed ticks fastest -/
abbrev RS : Type := Int32 × Int32 × Int32 × Int32 × Int32 × Int32 × Int32
def rollF (R : RK) (wt : Row) (cyl : Row) (still : Int32) (d : RS) : RS :=
  let gain := if d.2.2.2.2.2.1 = 0 ∨ still = 0 then gainF (wsum wt (R.1 + 1).toNatClampNeg) d.1 (brkR R.2.2.2.2.1 cyl d.2.1 (R.1 + 1).toNatClampNeg) else d.2.2.1
  let speed := if 0 < d.2.2.2.2.1 + gain then d.2.2.2.2.1 + gain else 0
  (d.1, d.2.1, gain, d.2.2.2.1 + speed, speed, d.2.2.2.2.2.1 + 1, if d.2.2.2.2.2.2 < speed then speed else d.2.2.2.2.2.2)
def stepX (R : RK) (wt : Row) (L : LV) (x : AS × RS) : AS × RS := (advF R L x.1, rollF R wt (advF R L x.1).2.2.2.1 (advF R L x.1).2.2.2.2.2.2.2.2.2 x.2)
def stopX (lim : Int32) (x : AS × RS) : Prop := x.2.2.2.2.2.1 = 0 ∨ 600 ≤ x.2.2.2.2.2.2.1 ∨ ¬ x.2.2.2.2.1 ≤ lim
def spanX (lim : Int32) (R : RK) (wt : Row) (L : LV) : Nat → AS × RS → AS × RS
  | 0, x => x
  | n + 1, x => if x.2.2.2.2.2.1 = 0 ∨ 600 ≤ x.2.2.2.2.2.2.1 ∨ ¬ x.2.2.2.2.1 ≤ lim then x else spanX lim R wt L n (stepX R wt L x)
theorem spanX_stop {lim : Int32} {R : RK} {wt : Row} {L : LV} {n : Nat} {x : AS × RS} (h : x.2.2.2.2.2.1 = 0 ∨ 600 ≤ x.2.2.2.2.2.2.1 ∨ ¬ x.2.2.2.2.1 ≤ lim) : spanX lim R wt L n x = x := by
  cases n with
  | zero => rfl
  | succ n => simp only [spanX]; rw [if_pos h]
theorem spanX_go {lim : Int32} {R : RK} {wt : Row} {L : LV} {n : Nat} {x : AS × RS} (h : ¬ (x.2.2.2.2.2.1 = 0 ∨ 600 ≤ x.2.2.2.2.2.2.1 ∨ ¬ x.2.2.2.2.1 ≤ lim)) : spanX lim R wt L (n + 1) x = spanX lim R wt L n (stepX R wt L x) := by
  simp only [spanX]; rw [if_neg h]
def spanV (lim : Int32) (x : AS × RS) : Int32 := if x.2.2.2.2.2.1 = 0 ∧ x.2.2.2.2.1 ≤ lim then x.2.2.2.2.1 else (-1)
theorem m_sub {i : Int32} (h0 : 0 ≤ i) (h : i < 600) : (600 - i).toNatClampNeg = (600 - (i + 1)).toNatClampNeg + 1 := by
  have h1 : (600 - i) = (600 - (i + 1)) + 1 := by grind
  rw [h1, cl_succ (by grind) (by grind)]
theorem advF_eta (R : RK) (L : LV) (s : AS) : advF R L s = ((advF R L s).1, (advF R L s).2.1, (advF R L s).2.2.1, (advF R L s).2.2.2.1, (advF R L s).2.2.2.2.1, (advF R L s).2.2.2.2.2.1, s.2.2.2.2.2.2.1, s.2.2.2.2.2.2.2.1, s.2.2.2.2.2.2.2.2.1, (advF R L s).2.2.2.2.2.2.2.2.2) := by
  by_cases h : (if s.2.2.2.2.1 + 1 = s.2.2.2.2.2.2.2.2.1 then (0 : Int32) else if overF L.1 L.2.2.2.2 s.2.2.2.2.2.1 (s.2.2.2.2.1 + 1) ≠ 0 then 0 else s.2.2.2.2.2.2.2.2.2) ≠ 0
  · simp only [advF, if_pos h]
  · simp only [advF, if_neg h]
theorem stepX_eta (R : RK) (wt : Row) (L : LV) (s : AS) (d : RS) : stepX R wt L (s, d) = (((advF R L s).1, (advF R L s).2.1, (advF R L s).2.2.1, (advF R L s).2.2.2.1, (advF R L s).2.2.2.2.1, (advF R L s).2.2.2.2.2.1, s.2.2.2.2.2.2.1, s.2.2.2.2.2.2.2.1, s.2.2.2.2.2.2.2.2.1, (advF R L s).2.2.2.2.2.2.2.2.2), (d.1, d.2.1, (rollF R wt (advF R L s).2.2.2.1 (advF R L s).2.2.2.2.2.2.2.2.2 d).2.2)) := Prod.ext (advF_eta R L s) rfl
