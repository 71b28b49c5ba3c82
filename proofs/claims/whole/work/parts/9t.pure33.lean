/-! the reference: texts -/
def kyG (s : GS) (v : Int64) : Int32 := if s.2.2.1 = 2 ∧ s.2.2.2.2 = v then 1 else 0
def opG (s : GS) : Int32 := if kyG s (spF 111 117 116 0 0) ≠ 0 then 64 else if kyG s (spF 107 101 101 112 0) ≠ 0 then 96 else if kyG s (spF 108 101 97 107 0) ≠ 0 then 128 else if kyG s (spF 104 111 115 101 0) ≠ 0 then 160 else if kyG s (spF 115 116 117 99 107) ≠ 0 then 192 else (-1)
/-- tokens, fault, place, told -/
abbrev GX : Type := GS × Int32 × Int32 × Int32
def bdG (k : Int32) (x : GX) : GX := (x.1, (if x.1.2.2.1 = 1 then 1 else k), x.1.2.1, x.2.2.2)
def gtG (P : TP) (x : GX) : GX := (goG P x.1, x.2)
def rnG (P : TP) (a b : Int32) (x : GX) : Int32 × GX := if ¬ x.1.2.2.1 = 3 then (0, bdG 1 x) else if ¬ (a ≤ x.1.2.2.2.1 ∧ x.1.2.2.2.1 ≤ b) then (0, bdG 2 x) else (1, (goG P x.1, x.2.1, x.2.2.1, x.1.2.2.2.1))
def rmG (P : TP) (x : GX) : Int32 × GX := if ¬ x.1.2.2.1 = 4 then (0, bdG 1 x) else (1, gtG P x)
def okG (P : TP) (s : GS) : Prop := 0 ≤ s.1 ∧ s.1 ≤ P.2.1 ∧ P.2.1 ≤ 740 ∧ 0 ≤ P.2.2
theorem okG_go {P : TP} {s : GS} (h : okG P s) : okG P (goG P s) := by
  obtain ⟨h1, h2, h3, h4⟩ := h
  have h0 : 0 ≤ P.2.1 := by grind
  have e : P.2.1.toNatClampNeg ≤ 740 := (cl_le h0 (show (0 : Int32) ≤ 740 by decide)).mpr h3
  have e1 := skR_le P.1 (P.2.1.toNatClampNeg - s.1.toNatClampNeg) s.1.toNatClampNeg
  have e3 := (cl_le h1 h0).mpr h2
  have e2 : ∀ n, n ≤ P.2.1.toNatClampNeg → 0 ≤ nI n ∧ nI n ≤ P.2.1 := fun n hn => ⟨nI_le (a := 0) (Nat.zero_le _) (by omega), by
    rw [← nI_cl h0]; exact nI_le hn (by omega)⟩
  have e4 := e2 (skR P.1 (P.2.1.toNatClampNeg - s.1.toNatClampNeg) s.1.toNatClampNeg) (by omega)
  simp only [goG, okG]
  split
  · exact ⟨e4.1, e4.2, h3, h4⟩
  · split
    · exact ⟨e4.1, e4.2, h3, h4⟩
    · split
      · have e5 := e2 (skR P.1 (P.2.1.toNatClampNeg - s.1.toNatClampNeg) s.1.toNatClampNeg + 1) (by omega)
        rw [nI_1]
        exact ⟨e5.1, e5.2, h3, h4⟩
      · have e6 := wgo_le P.1 (skR P.1 (P.2.1.toNatClampNeg - s.1.toNatClampNeg) s.1.toNatClampNeg) (if 97 ≤ P.1 (skR P.1 (P.2.1.toNatClampNeg - s.1.toNatClampNeg) s.1.toNatClampNeg) ∧ P.1 (skR P.1 (P.2.1.toNatClampNeg - s.1.toNatClampNeg) s.1.toNatClampNeg) ≤ 122 then 1 else 0) (P.2.1.toNatClampNeg - skR P.1 (P.2.1.toNatClampNeg - s.1.toNatClampNeg) s.1.toNatClampNeg) (skR P.1 (P.2.1.toNatClampNeg - s.1.toNatClampNeg) s.1.toNatClampNeg) 1 0 0
        have e7 := e2 _ (show (wgo P.1 (skR P.1 (P.2.1.toNatClampNeg - s.1.toNatClampNeg) s.1.toNatClampNeg) (if 97 ≤ P.1 (skR P.1 (P.2.1.toNatClampNeg - s.1.toNatClampNeg) s.1.toNatClampNeg) ∧ P.1 (skR P.1 (P.2.1.toNatClampNeg - s.1.toNatClampNeg) s.1.toNatClampNeg) ≤ 122 then 1 else 0) (P.2.1.toNatClampNeg - skR P.1 (P.2.1.toNatClampNeg - s.1.toNatClampNeg) s.1.toNatClampNeg) (skR P.1 (P.2.1.toNatClampNeg - s.1.toNatClampNeg) s.1.toNatClampNeg) 1 0 0).1 ≤ P.2.1.toNatClampNeg by omega)
        exact ⟨e7.1, e7.2, h3, h4⟩
theorem okG_rn {P : TP} {x : GX} {a b : Int32} (h : okG P x.1) : okG P (rnG P a b x).2.1 := by
  simp only [rnG]; split
  · exact h
  · split
    · exact h
    · exact okG_go h
theorem okG_rm {P : TP} {x : GX} (h : okG P x.1) : okG P (rmG P x).2.1 := by
  simp only [rmG]; split
  · exact h
  · exact okG_go h
