abbrev HSt : Type := GX × Row × Row × Row × Int32
def hlG (P : TP) : Nat → HSt → Int32 × HSt
  | 0, y => (0, y)
  | n + 1, y => if y.1.1.2.2.1 = 0 then (1, y) else if (tsG P y.1 y.2.1 y.2.2.1 y.2.2.2.1 y.2.2.2.2).1 = 0 then (0, (tsG P y.1 y.2.1 y.2.2.1 y.2.2.2.1 y.2.2.2.2).2) else hlG P n (tsG P y.1 y.2.1 y.2.2.1 y.2.2.2.1 y.2.2.2.2).2
theorem ts_rs {P : TP} {x : GX} {W D G : Row} {rs : Int32} (h1 : 0 ≤ rs) (h2 : rs ≤ 20) : 0 ≤ (tsG P x W D G rs).2.2.2.2.2 ∧ (tsG P x W D G rs).2.2.2.2.2 ≤ 20 := by
  simp only [tsG]
  split
  · exact ⟨h1, h2⟩
  · split
    · exact ⟨h1, h2⟩
    · split
      · exact ⟨h1, h2⟩
      · split
        · exact ⟨h1, h2⟩
        · constructor
          · show 0 ≤ rs + 1; grind
          · show rs + 1 ≤ 20; grind
theorem okG_ts {P : TP} {x : GX} {W D G : Row} {rs : Int32} (h : okG P x.1) : okG P (tsG P x W D G rs).2.1.1 := by
  have a : okG P (gtG P x).1 := okG_go h
  have b := okG_da (dr := dwG x.1) (k := 20 + rs) (x := gtG P x) (D := D) a
  have n := okG_rn (a := 1) (b := 99) b
  have e := okG_rm n
  simp only [tsG]
  split
  · exact h
  · split
    · exact h
    · split
      · exact b
      · split
        · exact n
        · exact e
