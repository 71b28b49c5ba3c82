def mxO (row : Int32) : Int32 := if row = 96 then 3 else if row = 128 then 99 else 100
def onG (s : GS) : Int32 := kyG s (spF 111 110 0 0 0)
def ofG (s : GS) : Int32 := kyG s (spF 111 102 102 0 0)
/-- an option's value: answer, tokens, the rows -/
def roG (P : TP) (row c : Int32) (x : GX) (T : Row) : Int32 × GX × Row :=
  if row = 64 then (1, x, upd T (64 + c).toNatClampNeg 1)
  else if row = 192 then (if onG x.1 = 0 ∧ ofG x.1 = 0 then (0, bdG 1 x, T) else (1, gtG P x, upd T (192 + c).toNatClampNeg (if onG x.1 ≠ 0 then 1 else 2)))
  else if (rnG P 0 (mxO row) x).1 = 0 then (0, (rnG P 0 (mxO row) x).2, T) else (1, (rnG P 0 (mxO row) x).2, upd T (row + c).toNatClampNeg (rnG P 0 (mxO row) x).2.2.2.2)
theorem okG_ro {P : TP} {row c : Int32} {x : GX} {T : Row} (h : okG P x.1) : okG P (roG P row c x T).2.1.1 := by
  simp only [roG]; split
  · exact h
  · split
    · split
      · exact h
      · exact okG_go h
    · split
      · exact okG_rn h
      · exact okG_rn h
