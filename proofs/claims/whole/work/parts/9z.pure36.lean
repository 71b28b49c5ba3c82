theorem okG_oc {P : TP} {c : Int32} : ∀ (n : Nat) (had : Int32) (x : GX) (T : Row), okG P x.1 → okG P (ocG P c n had x T).2.1.1 := by
  intro n
  induction n with
  | zero => intro had x T h; exact h
  | succ n ih =>
    intro had x T h
    have q := okG_ro (row := opG x.1) (c := c) (x := gtG P x) (T := T) (okG_go h)
    simp only [ocG]; split
    · exact h
    · split
      · exact h
      · split
        · exact h
        · split
          · exact q
          · exact ih _ _ _ q
theorem okG_rc {P : TP} {x : GX} {T : Row} {rc : Int32} (h : okG P x.1) : okG P (rcG P x T rc).2.1.1 := by
  have a : okG P (gtG P x).1 := okG_go h
  have b : okG P (gtG P (gtG P x)).1 := okG_go a
  have n := okG_rn (a := 10) (b := 99) b
  simp only [rcG]; split
  · exact h
  · split
    · exact a
    · split
      · exact n
      · have o := okG_oc (c := 16 + rc) 6 0 (rnG P 10 99 (gtG P (gtG P x))).2 (nwT (upd T (0 + (16 + rc)).toNatClampNeg (kiG (gtG P x).1)) (16 + rc) (rnG P 10 99 (gtG P (gtG P x))).2.2.2.2) n
        split
        · exact o
        · exact o
def fuG (s : GS) : Int32 := kyG s (spF 102 117 108 108 0)
def feG (s : GS) : Int32 := kyG s (spF 102 101 101 100 0)
def caG (s : GS) : Int32 := kyG s (spF 99 97 114 0 0)
def nnG (P : TP) (fu : Int32) (x : GX) : Int32 × GX := if fu ≠ 0 then rnG P 300 900 x else rnG P 1 99 x
def rlG (P : TP) (x : GX) (T : Row) (rc rf rd : Int32) : Int32 × GX × Row × Int32 × Int32 × Int32 :=
  if caG x.1 ≠ 0 then
    (if (rcG P x T rc).1 = 0 then (0, (rcG P x T rc).2.1, (rcG P x T rc).2.2.1, (rcG P x T rc).2.2.2, rf, rd)
     else ((if (rmG P (rcG P x T rc).2.1).1 = 0 then 0 else 1), (rmG P (rcG P x T rc).2.1).2, (rcG P x T rc).2.2.1, (rcG P x T rc).2.2.2, rf, rd))
  else if fuG x.1 = 0 ∧ feG x.1 = 0 then (0, bdG 1 x, T, rc, rf, rd)
  else if ¬ (if fuG x.1 ≠ 0 then rf else rd) = (-1) then (0, bdG 3 x, T, rc, rf, rd)
  else if (nnG P (fuG x.1) (gtG P x)).1 = 0 then (0, (nnG P (fuG x.1) (gtG P x)).2, T, rc, rf, rd)
  else ((rmG P (nnG P (fuG x.1) (gtG P x)).2).1, (rmG P (nnG P (fuG x.1) (gtG P x)).2).2, T, rc, (if fuG x.1 ≠ 0 then (nnG P (fuG x.1) (gtG P x)).2.2.2.2 else rf), (if fuG x.1 ≠ 0 then rd else (nnG P (fuG x.1) (gtG P x)).2.2.2.2))
theorem okG_nn {P : TP} {fu : Int32} {x : GX} (h : okG P x.1) : okG P (nnG P fu x).2.1 := by
  simp only [nnG]; split
  · exact okG_rn h
  · exact okG_rn h
theorem rmG_t (P : TP) (x : GX) : (rmG P x).2.2.2.2 = x.2.2.2 := by
  simp only [rmG]; split <;> rfl
theorem gx_eta (y : Int32 × GX) {t : Int32} (h : y.2.2.2.2 = t) : (y.1, ((y.2.1.1, y.2.1.2.1, y.2.1.2.2.1, y.2.1.2.2.2.1, y.2.1.2.2.2.2), y.2.2.1, y.2.2.2.1, t)) = y := by subst h; rfl
theorem rmG_01 (P : TP) (x : GX) : (rmG P x).1 = 0 ∨ (rmG P x).1 = 1 := by
  simp only [rmG]; split
  · exact Or.inl rfl
  · exact Or.inr rfl
