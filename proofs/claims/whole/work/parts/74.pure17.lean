abbrev SCA : List (Nat × Nat) := [(13, 0), (14, 0), (15, 0), (16, 0), (104, 0), (105, 0), (106, 0), (107, 0), (108, 0), (109, 0)]
abbrev SCP : List (Nat × Nat) := [(13, 1), (14, 1), (15, 1), (16, 1), (104, 1), (105, 1), (106, 1), (107, 1), (108, 1), (109, 1), (580, 1), (581, 1), (582, 1), (583, 1), (584, 1), (585, 1), (586, 1), (911, 0), (912, 0), (913, 0)]
abbrev SCH : List (Nat × Nat) := [(13, 1), (13, 2), (14, 1), (14, 2), (15, 1), (15, 2), (16, 1), (16, 2), (104, 1), (104, 2), (105, 1), (105, 2), (106, 1), (106, 2), (107, 1), (107, 2), (108, 1), (108, 2), (109, 1), (109, 2), (580, 1), (580, 2), (581, 1), (581, 2), (582, 1), (582, 2), (583, 1), (583, 2), (584, 1), (584, 2), (585, 1), (585, 2), (586, 1), (586, 2), (911, 0), (912, 0), (913, 0)]
abbrev SCO : List (Nat × Nat) := [(13, 1), (14, 1), (15, 1), (16, 1), (30, 2), (31, 2), (32, 2), (33, 2), (34, 2), (35, 2), (36, 2), (38, 0), (104, 1), (105, 1), (106, 1), (107, 1), (108, 1), (109, 1), (500, 2), (501, 2), (502, 2), (580, 1), (581, 1), (582, 1), (583, 1), (584, 1), (585, 1), (586, 1), (911, 0), (912, 0), (913, 0)]
abbrev SCC : List (Nat × Nat) := [(13, 1), (14, 1), (15, 1), (16, 1), (30, 2), (31, 2), (32, 2), (33, 2), (34, 2), (35, 2), (36, 2), (40, 0), (104, 1), (105, 1), (106, 1), (107, 1), (108, 1), (109, 1), (500, 2), (501, 2), (502, 2), (580, 1), (581, 1), (582, 1), (583, 1), (584, 1), (585, 1), (586, 1), (911, 0), (912, 0), (913, 0)]
abbrev SCF : List (Nat × Nat) := [(13, 3), (14, 3), (15, 3), (16, 3), (21, 0), (22, 0), (23, 0), (30, 3), (31, 3), (32, 3), (33, 3), (34, 3), (35, 3), (36, 3), (104, 3), (105, 3), (106, 3), (107, 3), (108, 3), (109, 3), (267, 0), (268, 0), (500, 3), (501, 3), (502, 3)]
/-! the calls -/
theorem feed_le {s : Int32} (h1 : 0 ≤ s) (h2 : s ≤ 740) : s + 20 ≤ 740 ↔ s ≤ 720 := by
  rw [le_toInt] at h1 h2
  have k0 : (0 : Int32).toInt = 0 := rfl
  have k1 : (740 : Int32).toInt = 740 := rfl
  have k2 : (20 : Int32).toInt = 20 := rfl
  have k3 : (720 : Int32).toInt = 720 := rfl
  have e : (s + 20).toInt = s.toInt + 20 := by
    rw [Int32.toInt_add, k2, Int.bmod_eq_of_le (by omega) (by omega)]
  rw [le_toInt, le_toInt, e]
  omega
def irF (g s n : Int32) : Int32 := if ((-40) ≤ g ∧ g ≤ 40) ∧ (0 ≤ s ∧ s ≤ 3000) ∧ (0 ≤ n ∧ n ≤ 90) then 1 else 0
def atV (S : AS) (wh ce : Int32) : Int32 := if wh = 0 then S.1 ce.toNatClampNeg else if wh = 1 then S.2.2.1 ce.toNatClampNeg else S.2.2.2.1 ce.toNatClampNeg
def heR (R : RK) (L : LV) (c : Int32) : Nat → Int32 → AS → Int32
  | 0, _, _ => (-1)
  | n + 1, t, S => if 0 < (advF R L S).2.2.2.1 c.toNatClampNeg then t else heR R L c n (t + 1) (advF R L S)
def eaR (R : RK) (L : LV) : Nat → Int32 → Int32 → AS → Int32
  | 0, _, _, _ => (-1)
  | n + 1, t, hd, S => if hd ≠ 0 ∧ anyR (advF R L S).2.2.2.1 (R.1 + 1).toNatClampNeg = 0 then t else eaR R L n (t + 1) (if hd ≠ 0 ∨ anyR (advF R L S).2.2.2.1 (R.1 + 1).toNatClampNeg ≠ 0 then 1 else 0) (advF R L S)
theorem anyR_ag {c c2 : Row} (h : ag c c2) : ∀ {n : Nat}, n ≤ 17 → anyR c n = anyR c2 n := by
  intro n
  induction n with
  | zero => intro _; rfl
  | succ n ih =>
    intro hn
    simp only [anyR]
    rw [ih (by omega), h n (by omega)]
theorem run_ae {lim : Int32} {R : RK} (h1 : 0 ≤ R.1) (h2 : R.1 ≤ 16) (wt : Row) (L : LV) {s : AS} (h : AE s (st0 R.2.1)) (d : RS) : (spanX lim R wt L 600 (s, d)).2 = (spanX lim R wt L 600 (st0 R.2.1, d)).2 := (spanX_ae h1 h2 wt L 600 d h).2
theorem feed_f {s : Int32} (h1 : 0 ≤ s) (h2 : s ≤ 720) : (0 ≤ s ∧ s ≤ 740) ∧ (0 ≤ s + 4 ∧ s + 4 ≤ 740) ∧ (0 ≤ s + 4 + 4 ∧ s + 4 + 4 ≤ 740) ∧ (0 ≤ s + 4 + 4 + 4 ∧ s + 4 + 4 + 4 ≤ 740) ∧ (0 ≤ s + 4 + 4 + 4 + 4 ∧ s + 4 + 4 + 4 + 4 ≤ 740) ∧ (0 ≤ s + 4 + 4 + 4 + 4 + 4 ∧ s + 4 + 4 + 4 + 4 + 4 ≤ 740) := by
  have st : ∀ {x : Int32} (n : Int), x.toInt = n → 0 ≤ n → n ≤ 736 → (x + 4).toInt = n + 4 := by
    intro x n e a b
    have k2 : (4 : Int32).toInt = 4 := rfl
    rw [Int32.toInt_add, k2, e, Int.bmod_eq_of_le (by omega) (by omega)]
  rw [le_toInt] at h1 h2
  have k0 : (0 : Int32).toInt = 0 := rfl
  have k1 : (740 : Int32).toInt = 740 := rfl
  have k3 : (720 : Int32).toInt = 720 := rfl
  have e1 := st (x := s) s.toInt rfl (by omega) (by omega)
  have e2 := st _ e1 (by omega) (by omega)
  have e3 := st _ e2 (by omega) (by omega)
  have e4 := st _ e3 (by omega) (by omega)
  have e5 := st _ e4 (by omega) (by omega)
  simp only [le_toInt, e1, e2, e3, e4, e5, k0, k1]
  omega
