/-! both sides: the text of a train -/
/-- the draft's cars against the rows behind the sixteenth -/
def RJ (D : DT) (T : Row) (m : Nat) : Prop := D.1 = nI m ∧ m ≤ 16 ∧ ∀ j, j < m → (D.2.1 (j + 1) = T (16 + j) ∧ D.2.2.1 (j + 1) = T (48 + j) ∧ D.2.2.2.1 (j + 1) = T (80 + j) ∧ D.2.2.2.2.1 (j + 1) = T (112 + j) ∧ D.2.2.2.2.2.1 (j + 1) = T (144 + j) ∧ D.2.2.2.2.2.2.1 (j + 1) = T (176 + j) ∧ D.2.2.2.2.2.2.2 (j + 1) = T (208 + j)) ∧
  (0 ≤ T (16 + j) ∧ T (16 + j) ≤ 2) ∧ (10 ≤ T (48 + j) ∧ T (48 + j) ≤ 99) ∧ (T (80 + j) = 0 ∨ T (80 + j) = 1) ∧ (0 ≤ T (112 + j) ∧ T (112 + j) ≤ 3) ∧ (0 ≤ T (144 + j) ∧ T (144 + j) ≤ 99) ∧ (0 ≤ T (176 + j) ∧ T (176 + j) ≤ 100)
theorem ix_e {m : Nat} (h : m < 100) (a : Nat) (ha : a < 1000) : (nI a + (16 + nI m)).toNatClampNeg = a + 16 + m := by
  rw [show (16 : Int32) = nI 16 from rfl, nI_add, nI_add, nI_clamp (by omega)]; omega
theorem ix_0 {m : Nat} (h : m < 100) : (0 + (16 + nI m)).toNatClampNeg = 16 + m := (ix_e h 0 (by omega)).trans (by omega)
theorem ix_1 {m : Nat} (h : m < 100) : (32 + (16 + nI m)).toNatClampNeg = 48 + m := (ix_e h 32 (by omega)).trans (by omega)
theorem ix_2 {m : Nat} (h : m < 100) : (64 + (16 + nI m)).toNatClampNeg = 80 + m := (ix_e h 64 (by omega)).trans (by omega)
theorem ix_3 {m : Nat} (h : m < 100) : (96 + (16 + nI m)).toNatClampNeg = 112 + m := (ix_e h 96 (by omega)).trans (by omega)
theorem ix_4 {m : Nat} (h : m < 100) : (128 + (16 + nI m)).toNatClampNeg = 144 + m := (ix_e h 128 (by omega)).trans (by omega)
theorem ix_5 {m : Nat} (h : m < 100) : (160 + (16 + nI m)).toNatClampNeg = 176 + m := (ix_e h 160 (by omega)).trans (by omega)
theorem ix_6 {m : Nat} (h : m < 100) : (192 + (16 + nI m)).toNatClampNeg = 208 + m := (ix_e h 192 (by omega)).trans (by omega)
theorem cl_n1 {m : Nat} (h : m < 100) : (nI m + 1).toNatClampNeg = m + 1 := by rw [nI_1, nI_clamp (by omega)]
theorem RJ_add {D : DT} {T : Row} {m : Nat} {k wt : Int32} (h : RJ D T m) (hm : m < 16) (hk : 0 ≤ k ∧ k ≤ 2) (hw : 10 ≤ wt ∧ wt ≤ 99) : RJ (addD D k wt) (nwT (upd T (0 + (16 + nI m)).toNatClampNeg k) (16 + nI m) wt) (m + 1) := by
  obtain ⟨h1, h2, h3⟩ := h
  refine ⟨by show D.1 + 1 = nI (m + 1); rw [h1, nI_1], by omega, fun j hj => ?_⟩
  simp only [addD, nwT, h1, cl_n1 (show m < 100 by omega), ix_0 (show m < 100 by omega), ix_1 (show m < 100 by omega), ix_2 (show m < 100 by omega), ix_3 (show m < 100 by omega), ix_4 (show m < 100 by omega), ix_5 (show m < 100 by omega), ix_6 (show m < 100 by omega)]
  by_cases q : j = m
  · subst q
    simp (disch := omega) only [upd_s, upd_n]
    exact ⟨⟨trivial, trivial, trivial, trivial, trivial, trivial, trivial⟩, hk, hw, Or.inl trivial, ⟨by decide, by decide⟩, ⟨by decide, by decide⟩, ⟨by decide, by decide⟩⟩
  · simp (disch := omega) only [upd_s, upd_n]
    exact h3 j (by omega)
/-- an option's value is laid -/
theorem RJ_o2 {D : DT} {T : Row} {m : Nat} (h : RJ D T (m + 1)) (hm : m < 16) : RJ (setD D 2 1) (upd T (64 + (16 + nI m)).toNatClampNeg 1) (m + 1) := by
  obtain ⟨h1, h2, h3⟩ := h
  have p1 : 1 ≤ nI (m + 1) := nI_le (a := 1) (by omega) (by omega)
  refine ⟨h1, h2, fun j hj => ?_⟩
  have a := h3 j hj
  simp only [setD, h1, ix_2 (show m < 100 by omega), nI_clamp (show m + 1 < 2 ^ 31 by omega)]
  rw [if_pos ⟨⟨p1, Int32.le_refl _⟩, trivial⟩, if_neg (fun z => absurd z.2 (by decide)), if_neg (fun z => absurd z.2 (by decide)), if_neg (fun z => absurd z.2 (by decide)), if_neg (fun z => absurd z.2 (by decide))]
  by_cases q : j = m
  · subst q
    simp (disch := omega) only [upd_s, upd_n]
    exact ⟨⟨a.1.1, a.1.2.1, trivial, a.1.2.2.2⟩, a.2.1, a.2.2.1, Or.inr trivial, a.2.2.2.2⟩
  · simp (disch := omega) only [upd_s, upd_n]
    exact a
theorem RJ_o3 {D : DT} {T : Row} {m : Nat} {x : Int32} (h : RJ D T (m + 1)) (hm : m < 16) (hx : 0 ≤ x ∧ x ≤ 3) : RJ (setD D 3 x) (upd T (96 + (16 + nI m)).toNatClampNeg x) (m + 1) := by
  obtain ⟨h1, h2, h3⟩ := h
  have p1 : 1 ≤ nI (m + 1) := nI_le (a := 1) (by omega) (by omega)
  refine ⟨h1, h2, fun j hj => ?_⟩
  have a := h3 j hj
  simp only [setD, h1, ix_3 (show m < 100 by omega), nI_clamp (show m + 1 < 2 ^ 31 by omega)]
  rw [if_neg (fun z => absurd z.2 (by decide)), if_pos ⟨⟨p1, Int32.le_refl _⟩, trivial⟩, if_neg (fun z => absurd z.2 (by decide)), if_neg (fun z => absurd z.2 (by decide)), if_neg (fun z => absurd z.2 (by decide))]
  by_cases q : j = m
  · subst q
    simp (disch := omega) only [upd_s, upd_n]
    exact ⟨⟨a.1.1, a.1.2.1, a.1.2.2.1, trivial, a.1.2.2.2.2⟩, a.2.1, a.2.2.1, a.2.2.2.1, hx, a.2.2.2.2.2⟩
  · simp (disch := omega) only [upd_s, upd_n]
    exact a
theorem RJ_o4 {D : DT} {T : Row} {m : Nat} {x : Int32} (h : RJ D T (m + 1)) (hm : m < 16) (hx : 0 ≤ x ∧ x ≤ 99) : RJ (setD D 4 x) (upd T (128 + (16 + nI m)).toNatClampNeg x) (m + 1) := by
  obtain ⟨h1, h2, h3⟩ := h
  have p1 : 1 ≤ nI (m + 1) := nI_le (a := 1) (by omega) (by omega)
  refine ⟨h1, h2, fun j hj => ?_⟩
  have a := h3 j hj
  simp only [setD, h1, ix_4 (show m < 100 by omega), nI_clamp (show m + 1 < 2 ^ 31 by omega)]
  rw [if_neg (fun z => absurd z.2 (by decide)), if_neg (fun z => absurd z.2 (by decide)), if_pos ⟨⟨p1, Int32.le_refl _⟩, trivial⟩, if_neg (fun z => absurd z.2 (by decide)), if_neg (fun z => absurd z.2 (by decide))]
  by_cases q : j = m
  · subst q
    simp (disch := omega) only [upd_s, upd_n]
    exact ⟨⟨a.1.1, a.1.2.1, a.1.2.2.1, a.1.2.2.2.1, trivial, a.1.2.2.2.2.2⟩, a.2.1, a.2.2.1, a.2.2.2.1, a.2.2.2.2.1, hx, a.2.2.2.2.2.2⟩
  · simp (disch := omega) only [upd_s, upd_n]
    exact a
theorem RJ_o5 {D : DT} {T : Row} {m : Nat} {x : Int32} (h : RJ D T (m + 1)) (hm : m < 16) (hx : 0 ≤ x ∧ x ≤ 100) : RJ (setD D 5 x) (upd T (160 + (16 + nI m)).toNatClampNeg x) (m + 1) := by
  obtain ⟨h1, h2, h3⟩ := h
  have p1 : 1 ≤ nI (m + 1) := nI_le (a := 1) (by omega) (by omega)
  refine ⟨h1, h2, fun j hj => ?_⟩
  have a := h3 j hj
  simp only [setD, h1, ix_5 (show m < 100 by omega), nI_clamp (show m + 1 < 2 ^ 31 by omega)]
  rw [if_neg (fun z => absurd z.2 (by decide)), if_neg (fun z => absurd z.2 (by decide)), if_neg (fun z => absurd z.2 (by decide)), if_pos ⟨⟨p1, Int32.le_refl _⟩, trivial⟩, if_neg (fun z => absurd z.2 (by decide))]
  by_cases q : j = m
  · subst q
    simp (disch := omega) only [upd_s, upd_n]
    exact ⟨⟨a.1.1, a.1.2.1, a.1.2.2.1, a.1.2.2.2.1, a.1.2.2.2.2.1, trivial, a.1.2.2.2.2.2.2⟩, a.2.1, a.2.2.1, a.2.2.2.1, a.2.2.2.2.1, a.2.2.2.2.2.1, hx⟩
  · simp (disch := omega) only [upd_s, upd_n]
    exact a
theorem RJ_o6 {D : DT} {T : Row} {m : Nat} {x : Int32} (h : RJ D T (m + 1)) (hm : m < 16) : RJ (setD D 6 x) (upd T (192 + (16 + nI m)).toNatClampNeg x) (m + 1) := by
  obtain ⟨h1, h2, h3⟩ := h
  have p1 : 1 ≤ nI (m + 1) := nI_le (a := 1) (by omega) (by omega)
  refine ⟨h1, h2, fun j hj => ?_⟩
  have a := h3 j hj
  simp only [setD, h1, ix_6 (show m < 100 by omega), nI_clamp (show m + 1 < 2 ^ 31 by omega)]
  rw [if_neg (fun z => absurd z.2 (by decide)), if_neg (fun z => absurd z.2 (by decide)), if_neg (fun z => absurd z.2 (by decide)), if_neg (fun z => absurd z.2 (by decide)), if_pos ⟨⟨p1, Int32.le_refl _⟩, trivial⟩]
  by_cases q : j = m
  · subst q
    simp (disch := omega) only [upd_s, upd_n]
    exact ⟨⟨a.1.1, a.1.2.1, a.1.2.2.1, a.1.2.2.2.1, a.1.2.2.2.2.1, a.1.2.2.2.2.2.1, trivial⟩, a.2⟩
  · simp (disch := omega) only [upd_s, upd_n]
    exact a
/-- the option at hand -/
theorem op_e {f : Row} {n l lm : Int32} {t : TS} {s : GS} (hn : 0 ≤ n ∧ n ≤ 740) (h : tJ f n l t s) : (opT (f, n, lm) t = (-1) ∧ opG s = (-1)) ∨ (t.2.2.1 = 1 ∧ ((opT (f, n, lm) t = 2 ∧ opG s = 64) ∨ (opT (f, n, lm) t = 3 ∧ opG s = 96) ∨ (opT (f, n, lm) t = 4 ∧ opG s = 128) ∨ (opT (f, n, lm) t = 5 ∧ opG s = 160) ∨ (opT (f, n, lm) t = 6 ∧ opG s = 192))) := by
  simp only [opT, opG, wk_6 hn h, wk_7 hn h, wk_8 hn h, wk_9 hn h, wk_10 hn h]
  split
  · rename_i q; exact Or.inr ⟨(tJ_k1 h).mp (ky_2 q), Or.inl ⟨rfl, rfl⟩⟩
  · split
    · rename_i q; exact Or.inr ⟨(tJ_k1 h).mp (ky_2 q), Or.inr (Or.inl ⟨rfl, rfl⟩)⟩
    · split
      · rename_i q; exact Or.inr ⟨(tJ_k1 h).mp (ky_2 q), Or.inr (Or.inr (Or.inl ⟨rfl, rfl⟩))⟩
      · split
        · rename_i q; exact Or.inr ⟨(tJ_k1 h).mp (ky_2 q), Or.inr (Or.inr (Or.inr (Or.inl ⟨rfl, rfl⟩)))⟩
        · split
          · rename_i q; exact Or.inr ⟨(tJ_k1 h).mp (ky_2 q), Or.inr (Or.inr (Or.inr (Or.inr ⟨rfl, rfl⟩)))⟩
          · exact Or.inl ⟨rfl, rfl⟩
theorem nu_e {f : Row} {n l : Int32} {t : TS} {x : GX} {T : Row} {m : Nat} {D : DT} (hn : 0 ≤ n ∧ n ≤ 740) (hl : 0 ≤ l ∧ l ≤ 740) (h : uJ f n l t x) {wh row b : Int32} (e1 : roV (f, n, mnL n l) wh t = tnT (f, n, mnL n l) 0 b t) (e2 : roG (f, n, l) row (16 + nI m) x T = if (rnG (f, n, l) 0 b x).1 = 0 then (0, (rnG (f, n, l) 0 b x).2, T) else (1, (rnG (f, n, l) 0 b x).2, upd T (row + (16 + nI m)).toNatClampNeg (rnG (f, n, l) 0 b x).2.2.2.2)) (e3 : ∀ v, 0 ≤ v ∧ v ≤ b → RJ (setD D wh v) (upd T (row + (16 + nI m)).toNatClampNeg v) (m + 1)) :
    ((roV (f, n, mnL n l) wh t).1 = (-1) ∧ (roG (f, n, l) row (16 + nI m) x T).1 = 0 ∧ xJ (roV (f, n, mnL n l) wh t).2 (roG (f, n, l) row (16 + nI m) x T).2.1) ∨
    (¬ (roV (f, n, mnL n l) wh t).1 = (-1) ∧ ¬ (roG (f, n, l) row (16 + nI m) x T).1 = 0 ∧ uJ f n l (roV (f, n, mnL n l) wh t).2 (roG (f, n, l) row (16 + nI m) x T).2.1 ∧ RJ (setD D wh (roV (f, n, mnL n l) wh t).1) (roG (f, n, l) row (16 + nI m) x T).2.2 (m + 1)) := by
  rw [e1, e2]
  rcases tn_e hn hl (a := 0) (b := b) (Int32.le_refl _) h with ⟨a1, a2, a3⟩ | ⟨a1, a2, a3, a4, a5, a6⟩
  · rw [if_pos a2]; exact Or.inl ⟨a1, rfl, a3⟩
  · rw [if_neg a2, a4]; exact Or.inr ⟨a1, (by show ¬ (1 : Int32) = 0; decide), a3, e3 _ ⟨a5, a6⟩⟩
theorem st_e {f : Row} {n l : Int32} {t : TS} {x : GX} {T : Row} {m : Nat} {D : DT} (hn : 0 ≤ n ∧ n ≤ 740) (hl : 0 ≤ l ∧ l ≤ 740) (h : uJ f n l t x) (hR : RJ D T (m + 1)) (hm : m < 16) :
    ((roV (f, n, mnL n l) 6 t).1 = (-1) ∧ (roG (f, n, l) 192 (16 + nI m) x T).1 = 0 ∧ xJ (roV (f, n, mnL n l) 6 t).2 (roG (f, n, l) 192 (16 + nI m) x T).2.1) ∨
    (¬ (roV (f, n, mnL n l) 6 t).1 = (-1) ∧ ¬ (roG (f, n, l) 192 (16 + nI m) x T).1 = 0 ∧ uJ f n l (roV (f, n, mnL n l) 6 t).2 (roG (f, n, l) 192 (16 + nI m) x T).2.1 ∧ RJ (setD D 6 (roV (f, n, mnL n l) 6 t).1) (roG (f, n, l) 192 (16 + nI m) x T).2.2 (m + 1)) := by
  have e1 : roV (f, n, mnL n l) 6 t = tsT (f, n, mnL n l) t := (if_neg (by decide)).trans (if_pos rfl)
  have e2 : roG (f, n, l) 192 (16 + nI m) x T = if onG x.1 = 0 ∧ ofG x.1 = 0 then (0, bdG 1 x, T) else (1, gtG (f, n, l) x, upd T (192 + (16 + nI m)).toNatClampNeg (if onG x.1 ≠ 0 then 1 else 2)) := (if_neg (by decide)).trans (if_pos rfl)
  have w1 : wdT (f, n, mnL n l) t (wL 11) = onG x.1 := wk_11 hn h.1
  have w2 : wdT (f, n, mnL n l) t (wL 12) = ofG x.1 := wk_12 hn h.1
  have e3 : tsV (f, n, mnL n l) t = if onG x.1 ≠ 0 then 1 else if ofG x.1 ≠ 0 then 2 else (-1) := by simp only [tsV]; rw [w1, w2]
  rw [e1, e2]
  by_cases q1 : onG x.1 = 0
  · by_cases q2 : ofG x.1 = 0
    · have e4 : tsV (f, n, mnL n l) t = (-1) := by rw [e3, if_neg (not_not_intro q1), if_neg (not_not_intro q2)]
      have e5 : tsT (f, n, mnL n l) t = ((-1), rfT 1 t) := if_pos e4
      rw [if_pos ⟨q1, q2⟩, e5]
      exact Or.inl ⟨rfl, rfl, xJ_rf h (Or.inl rfl)⟩
    · have e4 : tsV (f, n, mnL n l) t = 2 := by rw [e3, if_neg (not_not_intro q1), if_pos q2]
      have e5 : tsT (f, n, mnL n l) t = (2, rdT (f, n, mnL n l) t) := by
        simp only [tsT]; rw [e4]; exact if_neg (by decide)
      rw [if_neg (fun z => q2 z.2), e5, if_neg (not_not_intro q1)]
      exact Or.inr ⟨(by show ¬ (2 : Int32) = (-1); decide), (by show ¬ (1 : Int32) = 0; decide), uJ_rd hn hl h (Or.inl ((tJ_k1 h.1).mp (ky_2 q2))), RJ_o6 hR hm⟩
  · have e4 : tsV (f, n, mnL n l) t = 1 := by rw [e3, if_pos q1]
    have e5 : tsT (f, n, mnL n l) t = (1, rdT (f, n, mnL n l) t) := by
      simp only [tsT]; rw [e4]; exact if_neg (by decide)
    rw [if_neg (fun z => q1 z.1), e5, if_pos q1]
    exact Or.inr ⟨(by show ¬ (1 : Int32) = (-1); decide), (by show ¬ (1 : Int32) = 0; decide), uJ_rd hn hl h (Or.inl ((tJ_k1 h.1).mp (ky_2 q1))), RJ_o6 hR hm⟩
/-- an option's value, both sides -/
theorem ro_e {f : Row} {n l : Int32} {t : TS} {x : GX} {T : Row} {m : Nat} {D : DT} {wh row : Int32} (hn : 0 ≤ n ∧ n ≤ 740) (hl : 0 ≤ l ∧ l ≤ 740) (h : uJ f n l t x) (hR : RJ D T (m + 1)) (hm : m < 16) (hw : (wh = 2 ∧ row = 64) ∨ (wh = 3 ∧ row = 96) ∨ (wh = 4 ∧ row = 128) ∨ (wh = 5 ∧ row = 160) ∨ (wh = 6 ∧ row = 192)) :
    ((roV (f, n, mnL n l) wh t).1 = (-1) ∧ (roG (f, n, l) row (16 + nI m) x T).1 = 0 ∧ xJ (roV (f, n, mnL n l) wh t).2 (roG (f, n, l) row (16 + nI m) x T).2.1) ∨
    (¬ (roV (f, n, mnL n l) wh t).1 = (-1) ∧ ¬ (roG (f, n, l) row (16 + nI m) x T).1 = 0 ∧ uJ f n l (roV (f, n, mnL n l) wh t).2 (roG (f, n, l) row (16 + nI m) x T).2.1 ∧ RJ (setD D wh (roV (f, n, mnL n l) wh t).1) (roG (f, n, l) row (16 + nI m) x T).2.2 (m + 1)) := by
  rcases hw with ⟨rfl, rfl⟩ | ⟨rfl, rfl⟩ | ⟨rfl, rfl⟩ | ⟨rfl, rfl⟩ | ⟨rfl, rfl⟩
  · have e1 : roV (f, n, mnL n l) 2 t = (1, t) := if_pos rfl
    have e2 : roG (f, n, l) 64 (16 + nI m) x T = (1, x, upd T (64 + (16 + nI m)).toNatClampNeg 1) := if_pos rfl
    rw [e1, e2]
    exact Or.inr ⟨(by show ¬ (1 : Int32) = (-1); decide), (by show ¬ (1 : Int32) = 0; decide), h, RJ_o2 hR hm⟩
  · exact nu_e hn hl h (b := 3) ((if_neg (by decide)).trans (if_neg (by decide))) ((if_neg (by decide)).trans (if_neg (by decide))) (fun v hv => RJ_o3 hR hm hv)
  · exact nu_e hn hl h (b := 99) ((if_neg (by decide)).trans (if_neg (by decide))) ((if_neg (by decide)).trans (if_neg (by decide))) (fun v hv => RJ_o4 hR hm hv)
  · exact nu_e hn hl h (b := 100) ((if_neg (by decide)).trans (if_neg (by decide))) ((if_neg (by decide)).trans (if_neg (by decide))) (fun v hv => RJ_o5 hR hm hv)
  · exact st_e hn hl h hR hm
/-- the options of a car; at a word that is none the mark is missed -/
theorem oc_e {f : Row} {n l : Int32} {m : Nat} (hn : 0 ≤ n ∧ n ≤ 740) (hl : 0 ≤ l ∧ l ≤ 740) (hm : m < 16) : ∀ (k : Nat) {had : Int32} {t : TS} {x : GX} {T : Row} {D : DT}, hadI had k → uJ f n l t x → RJ D T (m + 1) →
    (¬ (roT (f, n, mnL n l) k had t D).1 = 0 ∧ ¬ (ocG (f, n, l) (16 + nI m) k had x T).1 = 0 ∧ uJ f n l (roT (f, n, mnL n l) k had t D).2.1 (ocG (f, n, l) (16 + nI m) k had x T).2.1 ∧ RJ (roT (f, n, mnL n l) k had t D).2.2 (ocG (f, n, l) (16 + nI m) k had x T).2.2 (m + 1)) ∨
    ((roT (f, n, mnL n l) k had t D).1 = 0 ∧ (ocG (f, n, l) (16 + nI m) k had x T).1 = 0 ∧ xJ (roT (f, n, mnL n l) k had t D).2.1 (ocG (f, n, l) (16 + nI m) k had x T).2.1) ∨
    (¬ (roT (f, n, mnL n l) k had t D).1 = 0 ∧ (ocG (f, n, l) (16 + nI m) k had x T).1 = 0 ∧ (tmT (f, n, mnL n l) (roT (f, n, mnL n l) k had t D).2.1).1 = 0 ∧ xJ (tmT (f, n, mnL n l) (roT (f, n, mnL n l) k had t D).2.1).2 (ocG (f, n, l) (16 + nI m) k had x T).2.1) := by
  intro k
  induction k with
  | zero => intro had t x T D hh; exact absurd (hadI_1 hh) (by omega)
  | succ k ih =>
    intro had t x T D hh h hR
    have z10 : ¬ (1 : Int32) = 0 := by decide
    by_cases q1 : x.1.2.2.1 = 2
    · rcases op_e (lm := mnL n l) hn h.1 with ⟨a1, a2⟩ | ⟨f1, hw⟩
      · have e1 : roT (f, n, mnL n l) (k + 1) had t D = (1, t, D) := if_pos a1
        have e2 : ocG (f, n, l) (16 + nI m) (k + 1) had x T = (0, bdG 1 x, T) := (if_neg (not_not_intro q1)).trans (if_pos a2)
        rw [e1, e2]
        have := tm_no h ((tJ_k1 h.1).mp q1)
        exact Or.inr (Or.inr ⟨z10, rfl, this.1, this.2⟩)
      · have n1 : ¬ opT (f, n, mnL n l) t = (-1) := by rcases hw with z | z | z | z | z <;> (rw [z.1]; decide)
        have n2 : ¬ opG x.1 = (-1) := by rcases hw with z | z | z | z | z <;> (rw [z.2]; decide)
        have eo : opG x.1 / 32 = opT (f, n, mnL n l) t := by rcases hw with z | z | z | z | z <;> (rw [z.1, z.2]; decide)
        have hin : opG x.1 ∈ ([64, 96, 128, 160, 192] : List Int32) := (opG_in x.1).resolve_left n2
        by_cases q2 : (had >>> (opT (f, n, mnL n l) t &&& 31)) &&& 1 = 1
        · have e1 : roT (f, n, mnL n l) (k + 1) had t D = (0, rfT 3 t, D) := (if_neg n1).trans (if_pos q2)
          have e2 : ocG (f, n, l) (16 + nI m) (k + 1) had x T = (0, bdG 3 x, T) := (if_neg (not_not_intro q1)).trans ((if_neg n2).trans (if_pos (by rw [eo]; exact q2)))
          rw [e1, e2]
          exact Or.inr (Or.inl ⟨rfl, rfl, xJ_rf h (Or.inr (by rw [q1]; decide))⟩)
        · have q3 : ¬ (had >>> ((opG x.1 / 32) &&& 31)) &&& 1 = 1 := by rw [eo]; exact q2
          have u := uJ_rd hn hl h (Or.inl f1)
          rcases ro_e hn hl u hR hm hw with ⟨a1, a2, a3⟩ | ⟨a1, a2, a3, a4⟩
          · have e1 : roT (f, n, mnL n l) (k + 1) had t D = (0, (roV (f, n, mnL n l) (opT (f, n, mnL n l) t) (rdT (f, n, mnL n l) t)).2, D) := (if_neg n1).trans ((if_neg q2).trans (if_pos a1))
            have e2 : ocG (f, n, l) (16 + nI m) (k + 1) had x T = (0, (roG (f, n, l) (opG x.1) (16 + nI m) (gtG (f, n, l) x) T).2) := (if_neg (not_not_intro q1)).trans ((if_neg n2).trans ((if_neg q3).trans (if_pos a2)))
            rw [e1, e2]
            exact Or.inr (Or.inl ⟨rfl, rfl, a3⟩)
          · have e1 : roT (f, n, mnL n l) (k + 1) had t D = roT (f, n, mnL n l) k (had ||| 1 <<< (opT (f, n, mnL n l) t &&& 31)) (roV (f, n, mnL n l) (opT (f, n, mnL n l) t) (rdT (f, n, mnL n l) t)).2 (setD D (opT (f, n, mnL n l) t) (roV (f, n, mnL n l) (opT (f, n, mnL n l) t) (rdT (f, n, mnL n l) t)).1) := (if_neg n1).trans ((if_neg q2).trans (if_neg a1))
            have e2 : ocG (f, n, l) (16 + nI m) (k + 1) had x T = ocG (f, n, l) (16 + nI m) k (had ||| 1 <<< ((opG x.1 / 32) &&& 31)) (roG (f, n, l) (opG x.1) (16 + nI m) (gtG (f, n, l) x) T).2.1 (roG (f, n, l) (opG x.1) (16 + nI m) (gtG (f, n, l) x) T).2.2 := (if_neg (not_not_intro q1)).trans ((if_neg n2).trans ((if_neg q3).trans (if_neg a2)))
            have hs := hadI_s hh hin q3
            rw [Nat.add_sub_cancel, eo] at hs
            rw [e1, e2, eo]
            exact ih hs a3 a4
    · have q2 : ¬ t.2.2.1 = 1 := fun z => q1 ((tJ_k1 h.1).mpr z)
      have a1 : opT (f, n, mnL n l) t = (-1) := by
        rcases op_e (lm := mnL n l) hn h.1 with ⟨a1, -⟩ | ⟨f1, -⟩
        · exact a1
        · exact absurd f1 q2
      have e1 : roT (f, n, mnL n l) (k + 1) had t D = (1, t, D) := if_pos a1
      have e2 : ocG (f, n, l) (16 + nI m) (k + 1) had x T = (1, x, T) := if_pos q1
      rw [e1, e2]
      exact Or.inl ⟨z10, z10, h, hR⟩
/-- the kind of a car at hand -/
theorem kd_e {f : Row} {n l lm : Int32} {t : TS} {s : GS} (hn : 0 ≤ n ∧ n ≤ 740) (h : tJ f n l t s) : (kdT (f, n, lm) t = (-1) ∧ quG s = 0 ∧ slG s = 0 ∧ olG s = 0) ∨ (t.2.2.1 = 1 ∧ ¬ kdT (f, n, lm) t = (-1) ∧ ¬ (quG s = 0 ∧ slG s = 0 ∧ olG s = 0) ∧ kdT (f, n, lm) t = kiG s ∧ 0 ≤ kiG s ∧ kiG s ≤ 2) := by
  have e : kdT (f, n, lm) t = if olG s ≠ 0 then 0 else if quG s ≠ 0 then 1 else if slG s ≠ 0 then 2 else (-1) := by
    simp only [kdT, wk_3 hn h, wk_4 hn h, wk_5 hn h]; rfl
  by_cases q1 : olG s = 0
  · by_cases q2 : quG s = 0
    · by_cases q3 : slG s = 0
      · refine Or.inl ⟨?_, q2, q3, q1⟩
        rw [e, if_neg (not_not_intro q1), if_neg (not_not_intro q2), if_neg (not_not_intro q3)]
      · have ek : kiG s = 2 := (if_neg (not_not_intro q2)).trans (if_pos q3)
        have ed : kdT (f, n, lm) t = 2 := by rw [e, if_neg (not_not_intro q1), if_neg (not_not_intro q2), if_pos q3]
        refine Or.inr ⟨(tJ_k1 h).mp (ky_2 q3), ?_⟩
        rw [ed, ek]
        exact ⟨by decide, fun z => q3 z.2.1, rfl, by decide, by decide⟩
    · have ek : kiG s = 1 := if_pos q2
      have ed : kdT (f, n, lm) t = 1 := by rw [e, if_neg (not_not_intro q1), if_pos q2]
      refine Or.inr ⟨(tJ_k1 h).mp (ky_2 q2), ?_⟩
      rw [ed, ek]
      exact ⟨by decide, fun z => q2 z.1, rfl, by decide, by decide⟩
  · have x1 : quG s = 0 := ky_x q1 (by decide +kernel)
    have x2 : slG s = 0 := ky_x q1 (by decide +kernel)
    have ek : kiG s = 0 := (if_neg (not_not_intro x1)).trans (if_neg (not_not_intro x2))
    have ed : kdT (f, n, lm) t = 0 := by rw [e, if_pos q1]
    refine Or.inr ⟨(tJ_k1 h).mp (ky_2 q1), ?_⟩
    rw [ed, ek]
    exact ⟨by decide, fun z => q1 z.2.2, rfl, by decide, by decide⟩
