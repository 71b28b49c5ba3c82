/-! a token read moves on -/
theorem wgo_1 {f : Row} {a : Nat} {le : Int32} {n p : Nat} {good nu : Int32} {wo : Int64} (h : (97 ≤ f p ∧ f p ≤ 122) ∨ (48 ≤ f p ∧ f p ≤ 57)) (hn : 1 ≤ n) : p + 1 ≤ (wgo f a le n p good nu wo).1 := by
  obtain ⟨m, rfl⟩ : ∃ m, n = m + 1 := ⟨n - 1, by omega⟩
  simp only [wgo]
  rw [if_pos h]
  exact (wgo_le f a le m (p + 1) _ _ _).1
theorem go_to {P : TP} {s : GS} (h : okG P s) : s.1.toNatClampNeg ≤ (goG P s).1.toNatClampNeg ∧ (¬ (goG P s).2.2.1 = 0 → ¬ (goG P s).2.2.1 = 1 → s.1.toNatClampNeg < (goG P s).1.toNatClampNeg) := by
  obtain ⟨h1, h2, h3, h4⟩ := h
  have h0 : 0 ≤ P.2.1 := by grind
  have e : P.2.1.toNatClampNeg ≤ 740 := (cl_le h0 (show (0 : Int32) ≤ 740 by decide)).mpr h3
  have e1 := skR_le P.1 (P.2.1.toNatClampNeg - s.1.toNatClampNeg) s.1.toNatClampNeg
  have e3 := (cl_le h1 h0).mpr h2
  obtain ⟨p, hp⟩ : ∃ p, p = skR P.1 (P.2.1.toNatClampNeg - s.1.toNatClampNeg) s.1.toNatClampNeg := ⟨_, rfl⟩
  rw [← hp] at e1
  simp only [goG]
  rw [← hp]
  split
  · refine ⟨?_, fun _ q => absurd rfl q⟩
    show s.1.toNatClampNeg ≤ (nI p).toNatClampNeg
    rw [nI_clamp (by omega)]; omega
  · split
    · refine ⟨?_, fun q => absurd rfl q⟩
      show s.1.toNatClampNeg ≤ (nI p).toNatClampNeg
      rw [nI_clamp (by omega)]; omega
    · split
      · have z : (nI p + 1).toNatClampNeg = p + 1 := by rw [nI_1, nI_clamp (by omega)]
        refine ⟨?_, fun _ _ => ?_⟩
        · show s.1.toNatClampNeg ≤ (nI p + 1).toNatClampNeg
          omega
        · show s.1.toNatClampNeg < (nI p + 1).toNatClampNeg
          omega
      · rename_i a b c
        have hc := Decidable.not_not.mp c
        have z := wgo_1 (a := p) (le := if 97 ≤ P.1 p ∧ P.1 p ≤ 122 then 1 else 0) (good := 1) (nu := 0) (wo := 0) hc (show 1 ≤ P.2.1.toNatClampNeg - p by omega)
        have z2 := (wgo_le P.1 p (if 97 ≤ P.1 p ∧ P.1 p ≤ 122 then 1 else 0) (P.2.1.toNatClampNeg - p) p 1 0 0).2
        have y : (nI (wgo P.1 p (if 97 ≤ P.1 p ∧ P.1 p ≤ 122 then 1 else 0) (P.2.1.toNatClampNeg - p) p 1 0 0).1).toNatClampNeg = (wgo P.1 p (if 97 ≤ P.1 p ∧ P.1 p ≤ 122 then 1 else 0) (P.2.1.toNatClampNeg - p) p 1 0 0).1 := nI_clamp (by omega)
        refine ⟨?_, fun _ _ => ?_⟩
        · show s.1.toNatClampNeg ≤ (nI (wgo P.1 p (if 97 ≤ P.1 p ∧ P.1 p ≤ 122 then 1 else 0) (P.2.1.toNatClampNeg - p) p 1 0 0).1).toNatClampNeg
          omega
        · show s.1.toNatClampNeg < (nI (wgo P.1 p (if 97 ≤ P.1 p ∧ P.1 p ≤ 122 then 1 else 0) (P.2.1.toNatClampNeg - p) p 1 0 0).1).toNatClampNeg
          omega
theorem rm_to {P : TP} {x : GX} (h : okG P x.1) : x.1.1.toNatClampNeg ≤ (rmG P x).2.1.1.toNatClampNeg := by
  simp only [rmG]; split
  · exact Nat.le_refl _
  · exact (go_to h).1
theorem rn_to {P : TP} {x : GX} {a b : Int32} (h : okG P x.1) : x.1.1.toNatClampNeg ≤ (rnG P a b x).2.1.1.toNatClampNeg := by
  simp only [rnG]; split
  · exact Nat.le_refl _
  · split
    · exact Nat.le_refl _
    · exact (go_to h).1
/-- a step read has moved on -/
theorem ts_to {P : TP} {x : GX} {W D G : Row} {rs : Int32} (h : okG P x.1) (h1 : ¬ (tsG P x W D G rs).1 = 0) : x.1.1.toNatClampNeg < (tsG P x W D G rs).2.1.1.1.toNatClampNeg ∧ okG P (tsG P x W D G rs).2.1.1 := by
  have a : okG P (gtG P x).1 := okG_go h
  have b := okG_da (dr := dwG x.1) (k := 20 + rs) (x := gtG P x) (D := D) a
  have n := okG_rn (a := 1) (b := 99) b
  have e := okG_rm n
  have t1 : x.1.1.toNatClampNeg ≤ (gtG P x).1.1.toNatClampNeg := (go_to h).1
  have t2 : (gtG P x).1.1.toNatClampNeg ≤ (daG P (dwG x.1) (gtG P x) D (20 + rs)).2.1.1.1.toNatClampNeg := by
    simp only [daG]; split
    · exact Nat.le_refl _
    · split
      · exact rn_to a
      · exact rn_to a
  revert h1
  simp only [tsG]
  split
  · exact fun q => absurd rfl q
  · split
    · exact fun q => absurd rfl q
    · split
      · exact fun q => absurd rfl q
      · split
        · exact fun q => absurd rfl q
        · rename_i k1 k2 k3 k4
          intro q
          refine ⟨?_, e⟩
          show x.1.1.toNatClampNeg < (rmG P (rnG P 1 99 (daG P (dwG x.1) (gtG P x) D (20 + rs)).2.1).2).2.1.1.toNatClampNeg
          have t3 := rm_to n
          -- the number read is followed by a token
          have t4 : (daG P (dwG x.1) (gtG P x) D (20 + rs)).2.1.1.1.toNatClampNeg < (rnG P 1 99 (daG P (dwG x.1) (gtG P x) D (20 + rs)).2.1).2.1.1.toNatClampNeg := by
            have m4 : (rnG P 1 99 (daG P (dwG x.1) (gtG P x) D (20 + rs)).2.1).2.1.2.2.1 = 4 := by
              apply Decidable.byContradiction
              intro z
              apply q
              simp only [rmG]; rw [if_pos z]
            revert m4 k4
            simp only [rnG]
            split
            · exact fun q => absurd rfl q
            · split
              · exact fun q => absurd rfl q
              · intro _ m4
                exact (go_to b).2 (by rw [m4]; decide) (by rw [m4]; decide)
          omega
