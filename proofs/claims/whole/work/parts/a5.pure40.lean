/-! the reference: a handle's text, a train's text -/
def bhG (s : GS) : Int32 := kyG s (spF 98 111 116 104 0)
theorem bhG_01 (s : GS) : bhG s = 0 ∨ bhG s = 1 := ite_01
/-- ahead of the steps: fine, tokens -/
def hbG (P : TP) (x : GX) : Int32 × GX := if bhG x.1 = 0 then (1, x) else rmG P (gtG P x)
theorem okG_hb {P : TP} {x : GX} (h : okG P x.1) : okG P (hbG P x).2.1 := by
  simp only [hbG]; split
  · exact h
  · exact okG_rm (x := gtG P x) (okG_go h)
def hdG (P : TP) (x : GX) (W D G : Row) : Int32 × HSt := if (hbG P (gtG P x)).1 = 0 then (0, (hbG P (gtG P x)).2, W, D, G, 0) else hlG P 741 ((hbG P (gtG P x)).2, W, D, G, 0)
theorem hl_st {P : TP} {m : Nat} {y : HSt} (h : y.1.1.2.2.1 = 0) (hm : 1 ≤ m) : hlG P m y = (1, y) := by
  obtain ⟨n, rfl⟩ : ∃ n, m = n + 1 := ⟨m - 1, by omega⟩
  simp only [hlG]; rw [if_pos h]
theorem hl_no {P : TP} {m : Nat} {y : HSt} (h : ¬ y.1.1.2.2.1 = 0) (h2 : (tsG P y.1 y.2.1 y.2.2.1 y.2.2.2.1 y.2.2.2.2).1 = 0) (hm : 1 ≤ m) : hlG P m y = (0, (tsG P y.1 y.2.1 y.2.2.1 y.2.2.2.1 y.2.2.2.2).2) := by
  obtain ⟨n, rfl⟩ : ∃ n, m = n + 1 := ⟨m - 1, by omega⟩
  simp only [hlG]; rw [if_neg h, if_pos h2]
theorem hl_go {P : TP} {m : Nat} {y : HSt} (h : ¬ y.1.1.2.2.1 = 0) (h2 : ¬ (tsG P y.1 y.2.1 y.2.2.1 y.2.2.2.1 y.2.2.2.2).1 = 0) (hm : 1 ≤ m) : hlG P m y = hlG P (m - 1) (tsG P y.1 y.2.1 y.2.2.1 y.2.2.2.1 y.2.2.2.2).2 := by
  obtain ⟨n, rfl⟩ : ∃ n, m = n + 1 := ⟨m - 1, by omega⟩
  simp only [hlG]; rw [if_neg h, if_neg h2]; rfl
def sh20 (f : Row) (c : Nat) : Row := fun k => if k < c then f (20 + k) else f k
theorem sh20_0 (f : Row) : sh20 f 0 = f := by funext k; simp only [sh20]; rw [if_neg (Nat.not_lt_zero _)]
theorem sh20_s (f : Row) {i : Int32} (h0 : 0 ≤ i) (h1 : i < 20) : upd (sh20 f i.toNatClampNeg) i.toNatClampNeg (sh20 f i.toNatClampNeg (20 + i).toNatClampNeg) = sh20 f (i.toNatClampNeg + 1) := by
  have e := cl_add (x := 20) (y := i) (by decide) h0 (by decide) (by grind)
  have e2 : (20 : Int32).toNatClampNeg = 20 := rfl
  rw [e, e2]
  funext k
  by_cases q : k = i.toNatClampNeg
  · subst q
    rw [upd_s]
    simp only [sh20]
    rw [if_neg (by omega), if_pos (by omega)]
  · rw [upd_n _ _ q]
    simp only [sh20]
    by_cases z : k < i.toNatClampNeg
    · rw [if_pos z, if_pos (by omega)]
    · rw [if_neg z, if_neg (by omega)]
/-- a line read has moved on -/
theorem ro_to {P : TP} {row c : Int32} {x : GX} {T : Row} (h : okG P x.1) : x.1.1.toNatClampNeg ≤ (roG P row c x T).2.1.1.1.toNatClampNeg := by
  simp only [roG]; split
  · exact Nat.le_refl _
  · split
    · split
      · exact Nat.le_refl _
      · exact (go_to h).1
    · split
      · exact rn_to h
      · exact rn_to h
theorem oc_to {P : TP} {c : Int32} : ∀ (n : Nat) (had : Int32) (x : GX) (T : Row), okG P x.1 → x.1.1.toNatClampNeg ≤ (ocG P c n had x T).2.1.1.1.toNatClampNeg := by
  intro n
  induction n with
  | zero => intro had x T h; exact Nat.le_refl _
  | succ n ih =>
    intro had x T h
    have g : okG P (gtG P x).1 := okG_go h
    have q := okG_ro (row := opG x.1) (c := c) (x := gtG P x) (T := T) g
    have t1 : x.1.1.toNatClampNeg ≤ (gtG P x).1.1.toNatClampNeg := (go_to h).1
    have t2 := ro_to (row := opG x.1) (c := c) (x := gtG P x) (T := T) g
    simp only [ocG]; split
    · exact Nat.le_refl _
    · split
      · exact Nat.le_refl _
      · split
        · exact Nat.le_refl _
        · split
          · exact Nat.le_trans t1 t2
          · exact Nat.le_trans t1 (Nat.le_trans t2 (ih _ _ _ q))
theorem rn_st {P : TP} {a b : Int32} {x : GX} (h : okG P x.1) (h1 : ¬ (rnG P a b (gtG P x)).1 = 0) : x.1.1.toNatClampNeg < (gtG P x).1.1.toNatClampNeg := by
  revert h1
  simp only [rnG]
  split
  · exact fun q => absurd rfl q
  · rename_i k
    intro _
    have k3 : (gtG P x).1.2.2.1 = 3 := Decidable.not_not.mp k
    refine (go_to h).2 ?_ ?_
    · show ¬ (gtG P x).1.2.2.1 = 0
      rw [k3]; decide
    · show ¬ (gtG P x).1.2.2.1 = 1
      rw [k3]; decide
theorem rc_to {P : TP} {x : GX} {T : Row} {rc : Int32} (h : okG P x.1) (h1 : ¬ (rcG P x T rc).1 = 0) : x.1.1.toNatClampNeg < (rcG P x T rc).2.1.1.1.toNatClampNeg := by
  have a : okG P (gtG P x).1 := okG_go h
  have b : okG P (gtG P (gtG P x)).1 := okG_go a
  have n := okG_rn (a := 10) (b := 99) b
  have t1 : x.1.1.toNatClampNeg ≤ (gtG P x).1.1.toNatClampNeg := (go_to h).1
  have t3 := rn_to (a := 10) (b := 99) b
  revert h1
  simp only [rcG]; split
  · exact fun q => absurd rfl q
  · split
    · exact fun q => absurd rfl q
    · split
      · exact fun q => absurd rfl q
      · rename_i k
        have t2 := rn_st a k
        have o := oc_to (c := 16 + rc) 6 0 (rnG P 10 99 (gtG P (gtG P x))).2 (nwT (upd T (0 + (16 + rc)).toNatClampNeg (kiG (gtG P x).1)) (16 + rc) (rnG P 10 99 (gtG P (gtG P x))).2.2.2.2) n
        split
        · exact fun q => absurd rfl q
        · intro _
          exact Nat.lt_of_le_of_lt t1 (Nat.lt_of_lt_of_le t2 (Nat.le_trans t3 o))
theorem rl_c (P : TP) (x : GX) (T : Row) (rc rf rd : Int32) :
    (caG x.1 ≠ 0 ∧ (rcG P x T rc).1 = 0 ∧ rlG P x T rc rf rd = (0, (rcG P x T rc).2.1, (rcG P x T rc).2.2.1, (rcG P x T rc).2.2.2, rf, rd)) ∨
    (caG x.1 ≠ 0 ∧ ¬ (rcG P x T rc).1 = 0 ∧ rlG P x T rc rf rd = ((if (rmG P (rcG P x T rc).2.1).1 = 0 then 0 else 1), (rmG P (rcG P x T rc).2.1).2, (rcG P x T rc).2.2.1, (rcG P x T rc).2.2.2, rf, rd)) ∨
    (¬ caG x.1 ≠ 0 ∧ (fuG x.1 = 0 ∧ feG x.1 = 0) ∧ rlG P x T rc rf rd = (0, bdG 1 x, T, rc, rf, rd)) ∨
    (¬ caG x.1 ≠ 0 ∧ ¬ (fuG x.1 = 0 ∧ feG x.1 = 0) ∧ ¬ (if fuG x.1 ≠ 0 then rf else rd) = (-1) ∧ rlG P x T rc rf rd = (0, bdG 3 x, T, rc, rf, rd)) ∨
    (¬ caG x.1 ≠ 0 ∧ ¬ (fuG x.1 = 0 ∧ feG x.1 = 0) ∧ (if fuG x.1 ≠ 0 then rf else rd) = (-1) ∧ (nnG P (fuG x.1) (gtG P x)).1 = 0 ∧ rlG P x T rc rf rd = (0, (nnG P (fuG x.1) (gtG P x)).2, T, rc, rf, rd)) ∨
    (¬ caG x.1 ≠ 0 ∧ ¬ (fuG x.1 = 0 ∧ feG x.1 = 0) ∧ (if fuG x.1 ≠ 0 then rf else rd) = (-1) ∧ ¬ (nnG P (fuG x.1) (gtG P x)).1 = 0 ∧ rlG P x T rc rf rd = ((rmG P (nnG P (fuG x.1) (gtG P x)).2).1, (rmG P (nnG P (fuG x.1) (gtG P x)).2).2, T, rc, (if fuG x.1 ≠ 0 then (nnG P (fuG x.1) (gtG P x)).2.2.2.2 else rf), (if fuG x.1 ≠ 0 then rd else (nnG P (fuG x.1) (gtG P x)).2.2.2.2))) := by
  by_cases c1 : caG x.1 ≠ 0
  · by_cases c2 : (rcG P x T rc).1 = 0
    · exact Or.inl ⟨c1, c2, by simp only [rlG]; rw [if_pos c1, if_pos c2]⟩
    · exact Or.inr (Or.inl ⟨c1, c2, by simp only [rlG]; rw [if_pos c1, if_neg c2]⟩)
  · by_cases c2 : fuG x.1 = 0 ∧ feG x.1 = 0
    · exact Or.inr (Or.inr (Or.inl ⟨c1, c2, by simp only [rlG]; rw [if_neg c1, if_pos c2]⟩))
    · by_cases c3 : (if fuG x.1 ≠ 0 then rf else rd) = (-1)
      · by_cases c4 : (nnG P (fuG x.1) (gtG P x)).1 = 0
        · exact Or.inr (Or.inr (Or.inr (Or.inr (Or.inl ⟨c1, c2, c3, c4, by simp only [rlG]; rw [if_neg c1, if_neg c2, if_neg (not_not_intro c3), if_pos c4]⟩))))
        · exact Or.inr (Or.inr (Or.inr (Or.inr (Or.inr ⟨c1, c2, c3, c4, by simp only [rlG]; rw [if_neg c1, if_neg c2, if_neg (not_not_intro c3), if_neg c4]⟩))))
      · exact Or.inr (Or.inr (Or.inr (Or.inl ⟨c1, c2, c3, by simp only [rlG]; rw [if_neg c1, if_neg c2, if_pos c3]⟩)))
theorem nn_to {P : TP} {fu : Int32} {x : GX} (h : okG P x.1) (h1 : ¬ (nnG P fu (gtG P x)).1 = 0) : x.1.1.toNatClampNeg < (nnG P fu (gtG P x)).2.1.1.toNatClampNeg := by
  have a : okG P (gtG P x).1 := okG_go h
  by_cases q : fu ≠ 0
  · have e : nnG P fu (gtG P x) = rnG P 300 900 (gtG P x) := if_pos q
    rw [e] at h1 ⊢
    exact Nat.lt_of_lt_of_le (rn_st h h1) (rn_to a)
  · have e : nnG P fu (gtG P x) = rnG P 1 99 (gtG P x) := if_neg q
    rw [e] at h1 ⊢
    exact Nat.lt_of_lt_of_le (rn_st h h1) (rn_to a)
theorem rl_to {P : TP} {x : GX} {T : Row} {rc rf rd : Int32} (h : okG P x.1) (h1 : ¬ (rlG P x T rc rf rd).1 = 0) : x.1.1.toNatClampNeg < (rlG P x T rc rf rd).2.1.1.1.toNatClampNeg := by
  have r := okG_rc (T := T) (rc := rc) h
  have nn := okG_nn (fu := fuG x.1) (x := gtG P x) (okG_go h)
  rcases rl_c P x T rc rf rd with ⟨_, _, e⟩ | ⟨_, c, e⟩ | ⟨_, _, e⟩ | ⟨_, _, _, e⟩ | ⟨_, _, _, _, e⟩ | ⟨_, _, _, c, e⟩
  · rw [e] at h1; exact absurd rfl h1
  · rw [e]; exact Nat.lt_of_lt_of_le (rc_to h c) (rm_to r)
  · rw [e] at h1; exact absurd rfl h1
  · rw [e] at h1; exact absurd rfl h1
  · rw [e] at h1; exact absurd rfl h1
  · rw [e]; exact Nat.lt_of_lt_of_le (nn_to h c) (rm_to nn)
theorem okG_rl {P : TP} {x : GX} {T : Row} {rc rf rd : Int32} (h : okG P x.1) : okG P (rlG P x T rc rf rd).2.1.1 := by
  have r := okG_rc (T := T) (rc := rc) h
  have nn := okG_nn (fu := fuG x.1) (x := gtG P x) (okG_go h)
  rcases rl_c P x T rc rf rd with ⟨_, _, e⟩ | ⟨_, c, e⟩ | ⟨_, _, e⟩ | ⟨_, _, _, e⟩ | ⟨_, _, _, _, e⟩ | ⟨_, _, _, c, e⟩ <;> rw [e]
  · exact r
  · exact okG_rm r
  · exact h
  · exact h
  · exact nn
  · exact okG_rm nn
theorem rc_rc {P : TP} {x : GX} {T : Row} {rc : Int32} (h1 : 0 ≤ rc) (h2 : rc ≤ 16) : 0 ≤ (rcG P x T rc).2.2.2 ∧ (rcG P x T rc).2.2.2 ≤ 16 := by
  by_cases c1 : rc = 16
  · have e : (rcG P x T rc).2.2.2 = rc := by simp only [rcG]; rw [if_pos c1]
    rw [e]; exact ⟨h1, h2⟩
  · have e : (rcG P x T rc).2.2.2 = rc ∨ (rcG P x T rc).2.2.2 = rc + 1 := by
      simp only [rcG]; rw [if_neg c1]
      split
      · exact Or.inl rfl
      · split
        · exact Or.inl rfl
        · split
          · exact Or.inl rfl
          · exact Or.inr rfl
    rcases e with e | e <;> rw [e] <;> constructor <;> grind
theorem rl_rc {P : TP} {x : GX} {T : Row} {rc rf rd : Int32} (h1 : 0 ≤ rc) (h2 : rc ≤ 16) : 0 ≤ (rlG P x T rc rf rd).2.2.2.1 ∧ (rlG P x T rc rf rd).2.2.2.1 ≤ 16 := by
  have r := rc_rc (P := P) (x := x) (T := T) h1 h2
  rcases rl_c P x T rc rf rd with ⟨_, _, e⟩ | ⟨_, c, e⟩ | ⟨_, _, e⟩ | ⟨_, _, _, e⟩ | ⟨_, _, _, _, e⟩ | ⟨_, _, _, c, e⟩ <;> rw [e]
  · exact r
  · exact r
  · exact ⟨h1, h2⟩
  · exact ⟨h1, h2⟩
  · exact ⟨h1, h2⟩
  · exact ⟨h1, h2⟩
/-- tokens, rows, cars read, full and feed told -/
abbrev LSt : Type := GX × Row × Int32 × Int32 × Int32
def tlG (P : TP) : Nat → Int32 → LSt → Int32 × Int32 × LSt
  | 0, n, y => (0, n, y)
  | m + 1, n, y => if y.1.1.2.2.1 = 0 then (1, n, y) else if (rlG P y.1 y.2.1 y.2.2.1 y.2.2.2.1 y.2.2.2.2).1 = 0 then (0, n, (rlG P y.1 y.2.1 y.2.2.1 y.2.2.2.1 y.2.2.2.2).2) else tlG P m (n + 1) (rlG P y.1 y.2.1 y.2.2.1 y.2.2.2.1 y.2.2.2.2).2
theorem tl_st {P : TP} {m : Nat} {n : Int32} {y : LSt} (h : y.1.1.2.2.1 = 0) (hm : 1 ≤ m) : tlG P m n y = (1, n, y) := by
  obtain ⟨n, rfl⟩ : ∃ n, m = n + 1 := ⟨m - 1, by omega⟩
  simp only [tlG]; rw [if_pos h]
theorem tl_no {P : TP} {m : Nat} {n : Int32} {y : LSt} (h : ¬ y.1.1.2.2.1 = 0) (h2 : (rlG P y.1 y.2.1 y.2.2.1 y.2.2.2.1 y.2.2.2.2).1 = 0) (hm : 1 ≤ m) : tlG P m n y = (0, n, (rlG P y.1 y.2.1 y.2.2.1 y.2.2.2.1 y.2.2.2.2).2) := by
  obtain ⟨n, rfl⟩ : ∃ n, m = n + 1 := ⟨m - 1, by omega⟩
  simp only [tlG]; rw [if_neg h, if_pos h2]
theorem tl_go {P : TP} {m : Nat} {n : Int32} {y : LSt} (h : ¬ y.1.1.2.2.1 = 0) (h2 : ¬ (rlG P y.1 y.2.1 y.2.2.1 y.2.2.2.1 y.2.2.2.2).1 = 0) (hm : 1 ≤ m) : tlG P m n y = tlG P (m - 1) (n + 1) (rlG P y.1 y.2.1 y.2.2.1 y.2.2.2.1 y.2.2.2.2).2 := by
  obtain ⟨n, rfl⟩ : ∃ n, m = n + 1 := ⟨m - 1, by omega⟩
  simp only [tlG]; rw [if_neg h, if_neg h2]; rfl
/-- the end of a train's text: fine, lines, state -/
def teG (q : Int32 × Int32 × LSt) : Int32 × Int32 × LSt := if q.1 = 0 then q else if q.2.2.2.2.1 = 0 then (0, q.2.1, bdG 1 q.2.2.1, q.2.2.2) else q
def tdG (P : TP) (x : GX) (T : Row) : Int32 × Int32 × LSt := teG (tlG P 741 0 (gtG P x, T, 0, (-1), (-1)))
def sh7 (f : Row) (n : Nat) : Row := fun k => if k % 32 < 16 ∧ k < n then f (k + 16) else f k
theorem sh7_0 (f : Row) : sh7 f 0 = f := by funext k; simp only [sh7]; rw [if_neg (fun q => Nat.not_lt_zero _ q.2)]
theorem sh7_s (f : Row) {r c : Nat} (hr : r % 32 = 0) (hc : c < 16) : upd (sh7 f (r + c)) (r + c) (sh7 f (r + c) (r + 16 + c)) = sh7 f (r + c + 1) := by
  funext k
  by_cases q : k = r + c
  · subst q
    rw [upd_s]
    simp only [sh7]
    rw [if_neg (by omega), if_pos (by omega), show r + c + 16 = r + 16 + c by omega]
  · rw [upd_n _ _ q]
    simp only [sh7]
    by_cases z : k % 32 < 16 ∧ k < r + c
    · rw [if_pos z, if_pos (by omega)]
    · rw [if_neg z, if_neg (by omega)]
theorem sh7_r (f : Row) {r : Nat} (hr : r % 32 = 0) : sh7 f (r + 16) = sh7 f (r + 32) := by
  funext k
  simp only [sh7]
  by_cases z : k % 32 < 16 ∧ k < r + 16
  · rw [if_pos z, if_pos (by omega)]
  · rw [if_neg z, if_neg (by omega)]
theorem hs_eta (y : Int32 × HSt) : (y.1, ((y.2.1.1.1, y.2.1.1.2.1, y.2.1.1.2.2.1, y.2.1.1.2.2.2.1, y.2.1.1.2.2.2.2), y.2.1.2.1, y.2.1.2.2.1, y.2.1.2.2.2), y.2.2.1, y.2.2.2.1, y.2.2.2.2.1, y.2.2.2.2.2) = y := rfl
theorem ls_eta (y : Int32 × LSt) : (y.1, ((y.2.1.1.1, y.2.1.1.2.1, y.2.1.1.2.2.1, y.2.1.1.2.2.2.1, y.2.1.1.2.2.2.2), y.2.1.2.1, y.2.1.2.2.1, y.2.1.2.2.2), y.2.2.1, y.2.2.2.1, y.2.2.2.2.1, y.2.2.2.2.2) = y := rfl
