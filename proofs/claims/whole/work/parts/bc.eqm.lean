/-! both sides: a line of a train's text, all of them -/
theorem had_0 : hadI 0 6 := ⟨0, by omega, rfl, rfl⟩
theorem rc_e {f : Row} {n l : Int32} {t : TS} {x : GX} {T : Row} {m : Nat} {D : DT} (hn : 0 ≤ n ∧ n ≤ 740) (hl : 0 ≤ l ∧ l ≤ 740) (h : uJ f n l t x) (h1 : t.2.2.1 = 1) (hR : RJ D T m) :
    ((rcT (f, n, mnL n l) t D).1 = 0 ∧ (rcG (f, n, l) x T (nI m)).1 = 0 ∧ xJ (rcT (f, n, mnL n l) t D).2.1 (rcG (f, n, l) x T (nI m)).2.1) ∨
    (¬ (rcT (f, n, mnL n l) t D).1 = 0 ∧ (roT (f, n, mnL n l) 6 0 (rcT (f, n, mnL n l) t D).2.1 (rcT (f, n, mnL n l) t D).2.2).1 = 0 ∧ (rcG (f, n, l) x T (nI m)).1 = 0 ∧ xJ (roT (f, n, mnL n l) 6 0 (rcT (f, n, mnL n l) t D).2.1 (rcT (f, n, mnL n l) t D).2.2).2.1 (rcG (f, n, l) x T (nI m)).2.1) ∨
    (¬ (rcT (f, n, mnL n l) t D).1 = 0 ∧ ¬ (roT (f, n, mnL n l) 6 0 (rcT (f, n, mnL n l) t D).2.1 (rcT (f, n, mnL n l) t D).2.2).1 = 0 ∧ (rcG (f, n, l) x T (nI m)).1 = 0 ∧ (tmT (f, n, mnL n l) (roT (f, n, mnL n l) 6 0 (rcT (f, n, mnL n l) t D).2.1 (rcT (f, n, mnL n l) t D).2.2).2.1).1 = 0 ∧ xJ (tmT (f, n, mnL n l) (roT (f, n, mnL n l) 6 0 (rcT (f, n, mnL n l) t D).2.1 (rcT (f, n, mnL n l) t D).2.2).2.1).2 (rcG (f, n, l) x T (nI m)).2.1) ∨
    (¬ (rcT (f, n, mnL n l) t D).1 = 0 ∧ ¬ (roT (f, n, mnL n l) 6 0 (rcT (f, n, mnL n l) t D).2.1 (rcT (f, n, mnL n l) t D).2.2).1 = 0 ∧ ¬ (rcG (f, n, l) x T (nI m)).1 = 0 ∧ uJ f n l (roT (f, n, mnL n l) 6 0 (rcT (f, n, mnL n l) t D).2.1 (rcT (f, n, mnL n l) t D).2.2).2.1 (rcG (f, n, l) x T (nI m)).2.1 ∧ RJ (roT (f, n, mnL n l) 6 0 (rcT (f, n, mnL n l) t D).2.1 (rcT (f, n, mnL n l) t D).2.2).2.2 (rcG (f, n, l) x T (nI m)).2.2.1 (m + 1) ∧ (rcG (f, n, l) x T (nI m)).2.2.2 = nI (m + 1)) := by
  have z10 : ¬ (1 : Int32) = 0 := by decide
  have k2 : x.1.2.2.1 = 2 := (tJ_k1 h.1).mpr h1
  by_cases q : m = 16
  · have e1 : rcT (f, n, mnL n l) t D = (0, rfT 4 t, D) := if_pos (by rw [hR.1, q]; decide)
    have e2 : rcG (f, n, l) x T (nI m) = (0, bdG 4 x, T, nI m) := if_pos (by rw [q]; rfl)
    rw [e1, e2]
    exact Or.inl ⟨rfl, rfl, xJ_rf h (Or.inr (by rw [k2]; decide))⟩
  · have hm : m < 16 := by have := hR.2.1; omega
    have lt : D.1 < 16 := by rw [hR.1]; exact nI_lt (b := 16) hm (by omega)
    have ne : ¬ nI m = 16 := fun z => q (nI_inj (b := 16) (by omega) (by omega) z)
    have u1 := uJ_rd hn hl h (Or.inl h1)
    rcases kd_e (lm := mnL n l) hn u1.1 with ⟨a1, a2⟩ | ⟨f1, a1, a2, a3, a4⟩
    · have e1 : rcT (f, n, mnL n l) t D = (0, rfT 1 (rdT (f, n, mnL n l) t), D) := (if_neg (not_not_intro lt)).trans (if_pos a1)
      have e2 : rcG (f, n, l) x T (nI m) = (0, bdG 1 (gtG (f, n, l) x), T, nI m) := (if_neg ne).trans (if_pos a2)
      rw [e1, e2]
      exact Or.inl ⟨rfl, rfl, xJ_rf u1 (Or.inl rfl)⟩
    · have u2 := uJ_rd hn hl u1 (Or.inl f1)
      rcases tn_e hn hl (a := 10) (b := 99) (by decide) u2 with ⟨b1, b2, b3⟩ | ⟨b1, b2, b3, b4, b5⟩
      · have e1 : rcT (f, n, mnL n l) t D = (0, (tnT (f, n, mnL n l) 10 99 (rdT (f, n, mnL n l) (rdT (f, n, mnL n l) t))).2, D) := (if_neg (not_not_intro lt)).trans ((if_neg a1).trans (if_pos b1))
        have e2 : rcG (f, n, l) x T (nI m) = (0, (rnG (f, n, l) 10 99 (gtG (f, n, l) (gtG (f, n, l) x))).2, upd T (0 + (16 + nI m)).toNatClampNeg (kiG (gtG (f, n, l) x).1), nI m) := (if_neg ne).trans ((if_neg a2).trans (if_pos b2))
        rw [e1, e2]
        exact Or.inl ⟨rfl, rfl, b3⟩
      · have e1 : rcT (f, n, mnL n l) t D = (1, (tnT (f, n, mnL n l) 10 99 (rdT (f, n, mnL n l) (rdT (f, n, mnL n l) t))).2, addD D (kdT (f, n, mnL n l) (rdT (f, n, mnL n l) t)) (tnT (f, n, mnL n l) 10 99 (rdT (f, n, mnL n l) (rdT (f, n, mnL n l) t))).1) := (if_neg (not_not_intro lt)).trans ((if_neg a1).trans (if_neg b1))
        have r := RJ_add (k := kdT (f, n, mnL n l) (rdT (f, n, mnL n l) t)) hR hm (by rw [a3]; exact a4) b5
        have o := oc_e hn hl hm 6 had_0 b3 r
        have e2 : rcG (f, n, l) x T (nI m) = if (ocG (f, n, l) (16 + nI m) 6 0 (rnG (f, n, l) 10 99 (gtG (f, n, l) (gtG (f, n, l) x))).2 (nwT (upd T (0 + (16 + nI m)).toNatClampNeg (kdT (f, n, mnL n l) (rdT (f, n, mnL n l) t))) (16 + nI m) (tnT (f, n, mnL n l) 10 99 (rdT (f, n, mnL n l) (rdT (f, n, mnL n l) t))).1)).1 = 0 then (0, (ocG (f, n, l) (16 + nI m) 6 0 (rnG (f, n, l) 10 99 (gtG (f, n, l) (gtG (f, n, l) x))).2 (nwT (upd T (0 + (16 + nI m)).toNatClampNeg (kdT (f, n, mnL n l) (rdT (f, n, mnL n l) t))) (16 + nI m) (tnT (f, n, mnL n l) 10 99 (rdT (f, n, mnL n l) (rdT (f, n, mnL n l) t))).1)).2.1, (ocG (f, n, l) (16 + nI m) 6 0 (rnG (f, n, l) 10 99 (gtG (f, n, l) (gtG (f, n, l) x))).2 (nwT (upd T (0 + (16 + nI m)).toNatClampNeg (kdT (f, n, mnL n l) (rdT (f, n, mnL n l) t))) (16 + nI m) (tnT (f, n, mnL n l) 10 99 (rdT (f, n, mnL n l) (rdT (f, n, mnL n l) t))).1)).2.2, nI m) else (1, (ocG (f, n, l) (16 + nI m) 6 0 (rnG (f, n, l) 10 99 (gtG (f, n, l) (gtG (f, n, l) x))).2 (nwT (upd T (0 + (16 + nI m)).toNatClampNeg (kdT (f, n, mnL n l) (rdT (f, n, mnL n l) t))) (16 + nI m) (tnT (f, n, mnL n l) 10 99 (rdT (f, n, mnL n l) (rdT (f, n, mnL n l) t))).1)).2.1, (ocG (f, n, l) (16 + nI m) 6 0 (rnG (f, n, l) 10 99 (gtG (f, n, l) (gtG (f, n, l) x))).2 (nwT (upd T (0 + (16 + nI m)).toNatClampNeg (kdT (f, n, mnL n l) (rdT (f, n, mnL n l) t))) (16 + nI m) (tnT (f, n, mnL n l) 10 99 (rdT (f, n, mnL n l) (rdT (f, n, mnL n l) t))).1)).2.2, nI m + 1) := by
          rw [← b4, a3]
          exact (if_neg ne).trans ((if_neg a2).trans (if_neg b2))
        rw [e1, e2]
        dsimp only
        generalize ocG (f, n, l) (16 + nI m) 6 0 (rnG (f, n, l) 10 99 (gtG (f, n, l) (gtG (f, n, l) x))).2 (nwT (upd T (0 + (16 + nI m)).toNatClampNeg (kdT (f, n, mnL n l) (rdT (f, n, mnL n l) t))) (16 + nI m) (tnT (f, n, mnL n l) 10 99 (rdT (f, n, mnL n l) (rdT (f, n, mnL n l) t))).1) = o9 at o ⊢
        rcases o with ⟨c1, c2, c3, c4⟩ | ⟨c1, c2, c3⟩ | ⟨c1, c2, c3, c4⟩
        · rw [if_neg c2]
          exact Or.inr (Or.inr (Or.inr ⟨z10, c1, z10, c3, c4, nI_1 m⟩))
        · rw [if_pos c2]
          exact Or.inr (Or.inl ⟨z10, c1, rfl, c3⟩)
        · rw [if_pos c2]
          exact Or.inr (Or.inr (Or.inl ⟨z10, c1, rfl, c3, c4⟩))
def fB (x : Int32) : Prop := x = (-1) ∨ (300 ≤ x ∧ x ≤ 900)
def dB (x : Int32) : Prop := x = (-1) ∨ (1 ≤ x ∧ x ≤ 99)
/-- a line read: both have failed, or both go on -/
def lnE (f : Row) (n l : Int32) (x : GX) (c : Int32 × TS × Int32 × Int32 × DT) (g : Int32 × GX × Row × Int32 × Int32 × Int32) : Prop :=
  (g.1 = 0 ∧ ((c.1 = 0 ∧ xJ c.2.1 g.2.1) ∨ (¬ c.1 = 0 ∧ (tmT (f, n, mnL n l) c.2.1).1 = 0 ∧ xJ (tmT (f, n, mnL n l) c.2.1).2 g.2.1))) ∨
  (¬ g.1 = 0 ∧ ¬ c.1 = 0 ∧ ¬ (tmT (f, n, mnL n l) c.2.1).1 = 0 ∧ (tmT (f, n, mnL n l) c.2.1).2 = rdT (f, n, mnL n l) c.2.1 ∧ x.1.1.toNatClampNeg < c.2.1.2.1.toNatClampNeg ∧ (0 ≤ c.2.1.2.1 ∧ c.2.1.2.1 ≤ n) ∧ uJ f n l (tmT (f, n, mnL n l) c.2.1).2 g.2.1 ∧ ∃ q, RJ c.2.2.2.2 g.2.2.1 q ∧ g.2.2.2.1 = nI q ∧ c.2.2.1 = g.2.2.2.2.1 ∧ c.2.2.2.1 = g.2.2.2.2.2 ∧ fB c.2.2.1 ∧ dB c.2.2.2.1)
/-- the mark behind a line -/
theorem ln_m {f : Row} {n l : Int32} {x y : GX} {t : TS} {ft fd : Int32} {D : DT} {T : Row} {q : Nat} {g1 : Int32} (hn : 0 ≤ n ∧ n ≤ 740) (hl : 0 ≤ l ∧ l ≤ 740) (h : uJ f n l t y) (hto : x.1.1.toNatClampNeg < y.1.1.toNatClampNeg) (hR : RJ D T q) (hf : fB ft) (hd : dB fd) (hg : g1 = (rmG (f, n, l) y).1) :
    lnE f n l x (1, t, ft, fd, D) (g1, (rmG (f, n, l) y).2, T, nI q, ft, fd) := by
  rcases tm_e hn hl h with ⟨a1, a2, a3⟩ | ⟨a1, a2, a3, a4, a5⟩
  · exact Or.inl ⟨hg.trans a2, Or.inr ⟨(by show ¬ (1 : Int32) = 0; decide), a1, a3⟩⟩
  · refine Or.inr ⟨(by show ¬ g1 = 0; rw [hg, a2]; decide), (by show ¬ (1 : Int32) = 0; decide), a1, a4, ?_, ?_, a3, q, hR, rfl, rfl, rfl, hf, hd⟩
    · show x.1.1.toNatClampNeg < t.2.1.toNatClampNeg
      rw [a5]; exact hto
    · show 0 ≤ t.2.1 ∧ t.2.1 ≤ n
      rw [a5]; exact ⟨h.2.1.1, h.2.1.2.1⟩
theorem rl_e {f : Row} {n l : Int32} {t : TS} {x : GX} {T : Row} {m : Nat} {D : DT} {ft fd : Int32} (hn : 0 ≤ n ∧ n ≤ 740) (hl : 0 ≤ l ∧ l ≤ 740) (h : uJ f n l t x) (hR : RJ D T m) (hf : fB ft) (hd : dB fd) :
    lnE f n l x (rlT (f, n, mnL n l) t ft fd D) (rlG (f, n, l) x T (nI m) ft fd) := by
  have z10 : ¬ (1 : Int32) = 0 := by decide
  have w0 : wdT (f, n, mnL n l) t (wL 0) = fuG x.1 := wk_0 hn h.1
  have w1 : wdT (f, n, mnL n l) t (wL 1) = feG x.1 := wk_1 hn h.1
  have w2 : wdT (f, n, mnL n l) t (wL 2) = caG x.1 := wk_2 hn h.1
  by_cases qf : fuG x.1 = 0
  · by_cases qe : feG x.1 = 0
    · by_cases qc : caG x.1 = 0
      · have e1 : rlT (f, n, mnL n l) t ft fd D = (0, rfT 1 t, ft, fd, D) := (if_neg (by rw [w0]; exact not_not_intro qf)).trans ((if_neg (by rw [w1]; exact not_not_intro qe)).trans (if_neg (by rw [w2]; exact not_not_intro qc)))
        have e2 : rlG (f, n, l) x T (nI m) ft fd = (0, bdG 1 x, T, nI m, ft, fd) := (if_neg (not_not_intro qc)).trans (if_pos ⟨qf, qe⟩)
        rw [e1, e2]
        exact Or.inl ⟨rfl, Or.inl ⟨rfl, xJ_rf h (Or.inl rfl)⟩⟩
      · have h1 : t.2.2.1 = 1 := (tJ_k1 h.1).mp (ky_2 qc)
        have e1 : rlT (f, n, mnL n l) t ft fd D = (if (rcT (f, n, mnL n l) t D).1 = 0 then (0, (rcT (f, n, mnL n l) t D).2.1, ft, fd, (rcT (f, n, mnL n l) t D).2.2) else (if (roT (f, n, mnL n l) 6 0 (rcT (f, n, mnL n l) t D).2.1 (rcT (f, n, mnL n l) t D).2.2).1 = 0 then 0 else 1, (roT (f, n, mnL n l) 6 0 (rcT (f, n, mnL n l) t D).2.1 (rcT (f, n, mnL n l) t D).2.2).2.1, ft, fd, (roT (f, n, mnL n l) 6 0 (rcT (f, n, mnL n l) t D).2.1 (rcT (f, n, mnL n l) t D).2.2).2.2)) := (if_neg (by rw [w0]; exact not_not_intro qf)).trans ((if_neg (by rw [w1]; exact not_not_intro qe)).trans (if_pos (by rw [w2]; exact qc)))
        have e2 : rlG (f, n, l) x T (nI m) ft fd = (if (rcG (f, n, l) x T (nI m)).1 = 0 then (0, (rcG (f, n, l) x T (nI m)).2.1, (rcG (f, n, l) x T (nI m)).2.2.1, (rcG (f, n, l) x T (nI m)).2.2.2, ft, fd) else ((if (rmG (f, n, l) (rcG (f, n, l) x T (nI m)).2.1).1 = 0 then 0 else 1), (rmG (f, n, l) (rcG (f, n, l) x T (nI m)).2.1).2, (rcG (f, n, l) x T (nI m)).2.2.1, (rcG (f, n, l) x T (nI m)).2.2.2, ft, fd)) := if_pos qc
        have hto := fun z => rc_to (P := (f, n, l)) (x := x) (T := T) (rc := nI m) h.2.1 z
        have o := rc_e hn hl h h1 hR
        rw [e1, e2]
        generalize rcT (f, n, mnL n l) t D = c9 at o ⊢
        generalize roT (f, n, mnL n l) 6 0 c9.2.1 c9.2.2 = r9 at o ⊢
        generalize rcG (f, n, l) x T (nI m) = g9 at o hto ⊢
        rcases o with ⟨b1, b2, b3⟩ | ⟨b1, b2, b3, b4⟩ | ⟨b1, b2, b3, b4, b5⟩ | ⟨b1, b2, b3, b4, b5, b6⟩
        · rw [if_pos b1, if_pos b2]
          exact Or.inl ⟨rfl, Or.inl ⟨rfl, b3⟩⟩
        · rw [if_neg b1, if_pos b2, if_pos b3]
          exact Or.inl ⟨rfl, Or.inl ⟨rfl, b4⟩⟩
        · rw [if_neg b1, if_neg b2, if_pos b3]
          exact Or.inl ⟨rfl, Or.inr ⟨z10, b4, b5⟩⟩
        · rw [if_neg b1, if_neg b2, if_neg b3, b6]
          refine ln_m hn hl b4 (hto b3) b5 hf hd ?_
          rcases rmG_01 (f, n, l) g9.2.1 with z | z
          · rw [z]; rfl
          · rw [z]; rfl
    · have qc : caG x.1 = 0 := ky_x qe (by decide +kernel)
      have h1 : t.2.2.1 = 1 := (tJ_k1 h.1).mp (ky_2 qe)
      have k2 : x.1.2.2.1 = 2 := ky_2 qe
      have e1 : rlT (f, n, mnL n l) t ft fd D = (if (toT (f, n, mnL n l) fd 1 99 t).1 = (-1) then 0 else 1, (toT (f, n, mnL n l) fd 1 99 t).2, ft, (toT (f, n, mnL n l) fd 1 99 t).1, D) := (if_neg (by rw [w0]; exact not_not_intro qf)).trans (if_pos (by rw [w1]; exact qe))
      by_cases q3 : fd = (-1)
      · have e3 : toT (f, n, mnL n l) fd 1 99 t = tnT (f, n, mnL n l) 1 99 (rdT (f, n, mnL n l) t) := if_neg (not_not_intro q3)
        have e4 : nnG (f, n, l) (fuG x.1) (gtG (f, n, l) x) = rnG (f, n, l) 1 99 (gtG (f, n, l) x) := if_neg (not_not_intro qf)
        have e5 : ¬ ¬ (if fuG x.1 ≠ 0 then ft else fd) = (-1) := by rw [if_neg (not_not_intro qf)]; exact not_not_intro q3
        have u1 := uJ_rd hn hl h (Or.inl h1)
        rw [e1, e3]
        rcases tn_e hn hl (a := 1) (b := 99) (by decide) u1 with ⟨b1, b2, b3⟩ | ⟨b1, b2, b3, b4, b5⟩
        · have e2 : rlG (f, n, l) x T (nI m) ft fd = (0, (rnG (f, n, l) 1 99 (gtG (f, n, l) x)).2, T, nI m, ft, fd) := (if_neg (not_not_intro qc)).trans ((if_neg (fun z => qe z.2)).trans ((if_neg e5).trans ((if_pos (by rw [e4]; exact b2)).trans (by rw [e4]))))
          rw [e2, if_pos b1]
          exact Or.inl ⟨rfl, Or.inl ⟨rfl, b3⟩⟩
        · have e2 : rlG (f, n, l) x T (nI m) ft fd = ((rmG (f, n, l) (rnG (f, n, l) 1 99 (gtG (f, n, l) x)).2).1, (rmG (f, n, l) (rnG (f, n, l) 1 99 (gtG (f, n, l) x)).2).2, T, nI m, ft, (rnG (f, n, l) 1 99 (gtG (f, n, l) x)).2.2.2.2) := (if_neg (not_not_intro qc)).trans ((if_neg (fun z => qe z.2)).trans ((if_neg e5).trans ((if_neg (by rw [e4]; exact b2)).trans (by rw [e4, if_neg (not_not_intro qf), if_neg (not_not_intro qf)]))))
          have hto := nn_to (fu := fuG x.1) h.2.1 (by rw [e4]; exact b2)
          rw [e4] at hto
          rw [e2, if_neg b1, b4]
          exact ln_m hn hl b3 hto hR hf (Or.inr b5) rfl
      · have e3 : toT (f, n, mnL n l) fd 1 99 t = ((-1), rfT 3 t) := if_pos q3
        have e2 : rlG (f, n, l) x T (nI m) ft fd = (0, bdG 3 x, T, nI m, ft, fd) := (if_neg (not_not_intro qc)).trans ((if_neg (fun z => qe z.2)).trans (if_pos (by rw [if_neg (not_not_intro qf)]; exact q3)))
        rw [e1, e2, e3]
        exact Or.inl ⟨rfl, Or.inl ⟨rfl, xJ_rf h (Or.inr (by rw [k2]; decide))⟩⟩
  · have qc : caG x.1 = 0 := ky_x qf (by decide +kernel)
    have h1 : t.2.2.1 = 1 := (tJ_k1 h.1).mp (ky_2 qf)
    have k2 : x.1.2.2.1 = 2 := ky_2 qf
    have e1 : rlT (f, n, mnL n l) t ft fd D = (if (toT (f, n, mnL n l) ft 300 900 t).1 = (-1) then 0 else 1, (toT (f, n, mnL n l) ft 300 900 t).2, (toT (f, n, mnL n l) ft 300 900 t).1, fd, D) := if_pos (by rw [w0]; exact qf)
    by_cases q3 : ft = (-1)
    · have e3 : toT (f, n, mnL n l) ft 300 900 t = tnT (f, n, mnL n l) 300 900 (rdT (f, n, mnL n l) t) := if_neg (not_not_intro q3)
      have e4 : nnG (f, n, l) (fuG x.1) (gtG (f, n, l) x) = rnG (f, n, l) 300 900 (gtG (f, n, l) x) := if_pos qf
      have e5 : ¬ ¬ (if fuG x.1 ≠ 0 then ft else fd) = (-1) := by rw [if_pos qf]; exact not_not_intro q3
      have u1 := uJ_rd hn hl h (Or.inl h1)
      rw [e1, e3]
      rcases tn_e hn hl (a := 300) (b := 900) (by decide) u1 with ⟨b1, b2, b3⟩ | ⟨b1, b2, b3, b4, b5⟩
      · have e2 : rlG (f, n, l) x T (nI m) ft fd = (0, (rnG (f, n, l) 300 900 (gtG (f, n, l) x)).2, T, nI m, ft, fd) := (if_neg (not_not_intro qc)).trans ((if_neg (fun z => qf z.1)).trans ((if_neg e5).trans ((if_pos (by rw [e4]; exact b2)).trans (by rw [e4]))))
        rw [e2, if_pos b1]
        exact Or.inl ⟨rfl, Or.inl ⟨rfl, b3⟩⟩
      · have e2 : rlG (f, n, l) x T (nI m) ft fd = ((rmG (f, n, l) (rnG (f, n, l) 300 900 (gtG (f, n, l) x)).2).1, (rmG (f, n, l) (rnG (f, n, l) 300 900 (gtG (f, n, l) x)).2).2, T, nI m, (rnG (f, n, l) 300 900 (gtG (f, n, l) x)).2.2.2.2, fd) := (if_neg (not_not_intro qc)).trans ((if_neg (fun z => qf z.1)).trans ((if_neg e5).trans ((if_neg (by rw [e4]; exact b2)).trans (by rw [e4, if_pos qf, if_pos qf]))))
        have hto := nn_to (fu := fuG x.1) h.2.1 (by rw [e4]; exact b2)
        rw [e4] at hto
        rw [e2, if_neg b1, b4]
        exact ln_m hn hl b3 hto hR (Or.inr b5) hd rfl
    · have e3 : toT (f, n, mnL n l) ft 300 900 t = ((-1), rfT 3 t) := if_pos q3
      have e2 : rlG (f, n, l) x T (nI m) ft fd = (0, bdG 3 x, T, nI m, ft, fd) := (if_neg (not_not_intro qc)).trans ((if_neg (fun z => qf z.1)).trans (if_pos (by rw [if_pos qf]; exact q3)))
      rw [e1, e2, e3]
      exact Or.inl ⟨rfl, Or.inl ⟨rfl, xJ_rf h (Or.inr (by rw [k2]; decide))⟩⟩
/-- a train's text read: a fault of both, or the same train -/
def trJ (c : Int32 × LTS × Int32 × Int32) (g : Int32 × Int32 × LSt) : Prop :=
  (c.1 = (-1) ∧ g.1 = 0 ∧ xJ c.2.1.1 g.2.2.1) ∨
  (¬ c.1 = (-1) ∧ ¬ g.1 = 0 ∧ c.1 = g.2.1 ∧ c.2.1.1.2.2.2.2.1 = g.2.2.1.2.1 ∧ ∃ q, 1 ≤ q ∧ RJ c.2.1.2.2.2 g.2.2.2.1 q ∧ g.2.2.2.2.1 = nI q ∧ c.2.2.1 = (if g.2.2.2.2.2.1 = (-1) then 700 else g.2.2.2.2.2.1) ∧ c.2.2.2 = (if g.2.2.2.2.2.2 = (-1) then 40 else g.2.2.2.2.2.2) ∧ (300 ≤ c.2.2.1 ∧ c.2.2.1 ≤ 900) ∧ (1 ≤ c.2.2.2 ∧ c.2.2.2 ≤ 99))
theorem nI_n1 {k : Nat} (h : k < 1000) : ¬ nI k = (-1) := fun z => by
  have := nI_pos' (n := k) (by omega)
  rw [z] at this
  exact absurd this (by decide)
theorem lt_z {P : TP} {m : Nat} {n : Int32} {x : LTS} (h : x.1.2.2.1 = 0) : ltR P m n x = (n, x) := by
  cases m with
  | zero => rfl
  | succ m => exact if_pos h
theorem tr_z {f : Row} {n l : Int32} {x : LTS} {y : LSt} {q k F : Nat} (hF : 1 ≤ F) (hk : k < 1000) (hl : 0 ≤ l) (hn : 0 ≤ n) (h : uJ f n l x.1 y.1) (hR : RJ x.2.2.2 y.2.1 q) (h1 : y.2.2.1 = nI q) (h2 : x.2.1 = y.2.2.2.1) (h3 : x.2.2.1 = y.2.2.2.2) (hf : fB x.2.1) (hd : dB x.2.2.1) (h0 : x.1.2.2.1 = 0) (m : Nat) :
    trJ (trE (f, n, mnL n l) (ltR (f, n, mnL n l) m (nI k) x)) (teG (tlG (f, n, l) F (nI k) y)) := by
  rw [lt_z h0]
  have eA : trE (f, n, mnL n l) (nI k, x) = if mnL n l < n ∨ x.2.2.2.1 = 0 then ((-1), (rfT 1 x.1, x.2), 700, 40) else (nI k, x, (if x.2.1 = (-1) then 700 else x.2.1), (if x.2.2.1 = (-1) then 40 else x.2.2.1)) := if_neg (nI_n1 hk)
  rcases tJ_z h.1 h0 with ⟨ql, kx⟩ | ⟨ql, kx⟩
  · have em : mnL n l = l := if_neg (by grind)
    have nk : ¬ y.1.1.2.2.1 = 2 := by rw [kx]; decide
    have c0 : ∀ v, kyG y.1.1 v = 0 := fun v => if_neg (fun z => nk z.1)
    have e2 : rlG (f, n, l) y.1 y.2.1 y.2.2.1 y.2.2.2.1 y.2.2.2.2 = (0, bdG 1 y.1, y.2.1, y.2.2.1, y.2.2.2.1, y.2.2.2.2) := (if_neg (not_not_intro (c0 _))).trans (if_pos ⟨c0 _, c0 _⟩)
    have e3 : tlG (f, n, l) F (nI k) y = (0, nI k, (rlG (f, n, l) y.1 y.2.1 y.2.2.1 y.2.2.2.1 y.2.2.2.2).2) := tl_no (by rw [kx]; decide) (by rw [e2]) hF
    rw [eA, if_pos (Or.inl (by rw [em]; exact ql)), e3, e2]
    have e4 : teG (0, nI k, (bdG 1 y.1, y.2.1, y.2.2.1, y.2.2.2.1, y.2.2.2.2)) = (0, nI k, (bdG 1 y.1, y.2.1, y.2.2.1, y.2.2.2.1, y.2.2.2.2)) := if_pos rfl
    rw [e4]
    exact Or.inl ⟨rfl, rfl, xJ_rf h (Or.inl rfl)⟩
  · have em : ¬ mnL n l < n := by
      show ¬ (if n < l then n else l) < n
      by_cases z : n < l
      · rw [if_pos z]; grind
      · rw [if_neg z]; exact ql
    have e3 : tlG (f, n, l) F (nI k) y = (1, nI k, y) := tl_st kx hF
    have e4 : teG (1, nI k, y) = if y.2.2.1 = 0 then (0, nI k, bdG 1 y.1, y.2) else (1, nI k, y) := if_neg (show ¬ (1 : Int32) = 0 by decide)
    rw [eA, e3, e4]
    by_cases q0 : q = 0
    · have z1 : x.2.2.2.1 = 0 := by rw [hR.1, q0]; rfl
      have z2 : y.2.2.1 = 0 := by rw [h1, q0]; rfl
      rw [if_pos (Or.inr z1), if_pos z2]
      exact Or.inl ⟨rfl, rfl, xJ_rf h (Or.inl rfl)⟩
    · have q16 := hR.2.1
      have ne : ¬ nI q = 0 := nI_ne0 (by omega) (by omega)
      have z1 : ¬ x.2.2.2.1 = 0 := by rw [hR.1]; exact ne
      have z2 : ¬ y.2.2.1 = 0 := by rw [h1]; exact ne
      rw [if_neg (fun z => z.elim em z1), if_neg z2]
      refine Or.inr ⟨nI_n1 hk, (by show ¬ (1 : Int32) = 0; decide), rfl, h.2.2.1.trans h.2.2.2.symm, q, by omega, hR, h1, ?_, ?_, ?_, ?_⟩
      · show (if x.2.1 = (-1) then 700 else x.2.1) = (if y.2.2.2.1 = (-1) then 700 else y.2.2.2.1)
        rw [h2]
      · show (if x.2.2.1 = (-1) then 40 else x.2.2.1) = (if y.2.2.2.2 = (-1) then 40 else y.2.2.2.2)
        rw [h3]
      · show 300 ≤ (if x.2.1 = (-1) then 700 else x.2.1) ∧ (if x.2.1 = (-1) then 700 else x.2.1) ≤ 900
        rcases hf with z | z
        · rw [if_pos z]; decide
        · by_cases y9 : x.2.1 = (-1)
          · rw [if_pos y9]; decide
          · rw [if_neg y9]; exact z
      · show 1 ≤ (if x.2.2.1 = (-1) then 40 else x.2.2.1) ∧ (if x.2.2.1 = (-1) then 40 else x.2.2.1) ≤ 99
        rcases hd with z | z
        · rw [if_pos z]; decide
        · by_cases y9 : x.2.2.1 = (-1)
          · rw [if_pos y9]; decide
          · rw [if_neg y9]; exact z
theorem lt_e {f : Row} {n l : Int32} (hn : 0 ≤ n ∧ n ≤ 740) (hl : 0 ≤ l ∧ l ≤ 700) : ∀ (m k : Nat) {F : Nat} {x : LTS} {y : LSt} {q : Nat}, k + m = 740 → 741 - y.1.1.1.toNatClampNeg ≤ F → k ≤ y.1.1.1.toNatClampNeg → uJ f n l x.1 y.1 → (∃ t0, x.1 = rdT (f, n, mnL n l) t0 ∧ okT (f, n, mnL n l) t0 ∧ k ≤ t0.2.1.toNatClampNeg) → RJ x.2.2.2 y.2.1 q → y.2.2.1 = nI q → x.2.1 = y.2.2.2.1 → x.2.2.1 = y.2.2.2.2 → fB x.2.1 → dB x.2.2.1 →
    trJ (trE (f, n, mnL n l) (ltR (f, n, mnL n l) m (nI k) x)) (teG (tlG (f, n, l) F (nI k) y)) := by
  have hl2 : 0 ≤ l ∧ l ≤ 740 := ⟨hl.1, by have := hl.2; grind⟩
  have N1 : n.toNatClampNeg ≤ 740 := (cl_le hn.1 (show (0 : Int32) ≤ 740 by decide)).mpr hn.2
  have L1 : l.toNatClampNeg ≤ 700 := (cl_le hl.1 (show (0 : Int32) ≤ 700 by decide)).mpr hl.2
  have hml : 0 ≤ mnL n l ∧ mnL n l ≤ n ∧ mnL n l ≤ l := by
    simp only [mnL]
    by_cases q : n < l
    · rw [if_pos q]; exact ⟨hn.1, Int32.le_refl _, by grind⟩
    · rw [if_neg q]; exact ⟨hl.1, by grind, Int32.le_refl _⟩
  have M2 : (mnL n l).toNatClampNeg ≤ l.toNatClampNeg := (cl_le hml.1 hl.1).mpr hml.2.2
  intro m
  induction m with
  | zero =>
    intro k F x y q hk hF hk2 h ht hR h1 h2 h3 hf hd
    have to1 : y.1.1.1.toNatClampNeg ≤ n.toNatClampNeg := (cl_le h.2.1.1 hn.1).mpr h.2.1.2.1
    obtain ⟨t0, a1, a2, a3⟩ := ht
    have h0 : x.1.2.2.1 = 0 := by
      apply Decidable.byContradiction
      intro z
      rw [a1] at z
      have := rd_pos a2 z
      have e : (f, n, mnL n l).2.2 = mnL n l := rfl
      rw [e] at this
      omega
    exact tr_z (by omega) (by omega) hl.1 hn.1 h hR h1 h2 h3 hf hd h0 0
  | succ m ih =>
    intro k F x y q hk hF hk2 h ht hR h1 h2 h3 hf hd
    have to1 : y.1.1.1.toNatClampNeg ≤ n.toNatClampNeg := (cl_le h.2.1.1 hn.1).mpr h.2.1.2.1
    by_cases h0 : x.1.2.2.1 = 0
    · exact tr_z (by omega) (by omega) hl.1 hn.1 h hR h1 h2 h3 hf hd h0 (m + 1)
    · have k0 : ¬ y.1.1.2.2.1 = 0 := tJ_k0 h.1 h0
      have o := rl_e hn hl2 h hR hf hd
      rw [← h1] at o
      have o : lnE f n l y.1 (rlT (f, n, mnL n l) x.1 x.2.1 x.2.2.1 x.2.2.2) (rlG (f, n, l) y.1 y.2.1 y.2.2.1 y.2.2.2.1 y.2.2.2.2) := by rw [← h2, ← h3]; exact o
      have hto := fun z => rl_to (P := (f, n, l)) (x := y.1) (T := y.2.1) (rc := y.2.2.1) (rf := y.2.2.2.1) (rd := y.2.2.2.2) h.2.1 z
      have eA : ltR (f, n, mnL n l) (m + 1) (nI k) x = if (rlT (f, n, mnL n l) x.1 x.2.1 x.2.2.1 x.2.2.2).1 = 0 then ((-1), (rlT (f, n, mnL n l) x.1 x.2.1 x.2.2.1 x.2.2.2).2) else if (tmT (f, n, mnL n l) (rlT (f, n, mnL n l) x.1 x.2.1 x.2.2.1 x.2.2.2).2.1).1 = 0 then ((-1), (tmT (f, n, mnL n l) (rlT (f, n, mnL n l) x.1 x.2.1 x.2.2.1 x.2.2.2).2.1).2, (rlT (f, n, mnL n l) x.1 x.2.1 x.2.2.1 x.2.2.2).2.2) else ltR (f, n, mnL n l) m (nI k + 1) ((tmT (f, n, mnL n l) (rlT (f, n, mnL n l) x.1 x.2.1 x.2.2.1 x.2.2.2).2.1).2, (rlT (f, n, mnL n l) x.1 x.2.1 x.2.2.1 x.2.2.2).2.2) := if_neg h0
      have eN := fun z => tl_no (P := (f, n, l)) (m := F) (n := nI k) (y := y) k0 z (by omega)
      have eG := fun z => tl_go (P := (f, n, l)) (m := F) (n := nI k) (y := y) k0 z (by omega)
      rw [eA]
      generalize rlT (f, n, mnL n l) x.1 x.2.1 x.2.2.1 x.2.2.2 = c9 at o ⊢
      generalize rlG (f, n, l) y.1 y.2.1 y.2.2.1 y.2.2.2.1 y.2.2.2.2 = g9 at o hto eN eG
      rcases o with ⟨b1, b2⟩ | ⟨b1, b2, b3, b4, b5, b6, b7, q2, b8, b9, b10, b11, b12, b13⟩
      · rw [eN b1]
        have e4 : teG (0, nI k, g9.2) = (0, nI k, g9.2) := if_pos rfl
        rw [e4]
        rcases b2 with ⟨b3, b4⟩ | ⟨b3, b4, b5⟩
        · rw [if_pos b3]
          have e5 : trE (f, n, mnL n l) ((-1), c9.2) = ((-1), c9.2, 700, 40) := if_pos rfl
          rw [e5]
          exact Or.inl ⟨rfl, rfl, b4⟩
        · rw [if_neg b3, if_pos b4]
          have e5 : trE (f, n, mnL n l) ((-1), ((tmT (f, n, mnL n l) c9.2.1).2, c9.2.2)) = ((-1), ((tmT (f, n, mnL n l) c9.2.1).2, c9.2.2), 700, 40) := if_pos rfl
          rw [e5]
          exact Or.inl ⟨rfl, rfl, b5⟩
      · rw [if_neg b2, if_neg b3, eG b1, nI_1]
        have ok0 : okT (f, n, mnL n l) c9.2.1 := ⟨b6.1, b6.2, hn.2, hml.1, hml.2.1⟩
        have := hto b1
        exact ih (k + 1) (by omega) (by omega) (by omega) b7 ⟨c9.2.1, b4, ok0, by omega⟩ b8 b9 b10 b11 b12 b13
/-- train(), both sides -/
theorem train_e {f : Row} {n a b v fr kd nu pl to : Int32} {wo : Int64} {D : DT} {T : Row} (hn : 0 ≤ n ∧ n ≤ 740) (hD : D.1 = 0) :
    trJ (trE (f, n, mnL n 700) (ltR (f, n, mnL n 700) 740 0 (rdT (f, n, mnL n 700) (a, 0, b, v, 0, 0), (-1), (-1), D))) (tdG (f, n, 700) ((0, fr, kd, nu, wo), 0, pl, to) T) := by
  have hl : (0 : Int32) ≤ 700 ∧ (700 : Int32) ≤ 740 := ⟨by decide, by decide⟩
  have ok : okG (f, n, 700) (0, fr, kd, nu, wo) := ⟨Int32.le_refl _, hn.1, hn.2, hl.1⟩
  have h0 : uJ f n 700 (rdT (f, n, mnL n 700) (a, 0, b, v, 0, 0)) (gtG (f, n, 700) ((0, fr, kd, nu, wo), 0, pl, to)) := by
    refine ⟨rd_e hn hl rfl ⟨Int32.le_refl _, hn.1⟩, okG_go ok, ?_, rfl⟩
    show ((rdT (f, n, mnL n 700) (a, 0, b, v, 0, 0)).2.2.2.2).1 = 0
    rw [rdT_fp]
  have hml : 0 ≤ mnL n 700 ∧ mnL n 700 ≤ n := by
    simp only [mnL]
    by_cases q : n < 700
    · rw [if_pos q]; exact ⟨hn.1, Int32.le_refl _⟩
    · rw [if_neg q]; exact ⟨hl.1, by grind⟩
  exact lt_e hn ⟨hl.1, by decide⟩ 740 0 (x := (rdT (f, n, mnL n 700) (a, 0, b, v, 0, 0), (-1), (-1), D)) (y := (gtG (f, n, 700) ((0, fr, kd, nu, wo), 0, pl, to), T, 0, (-1), (-1))) (q := 0) rfl (by omega) (Nat.zero_le _) h0 ⟨(a, 0, b, v, 0, 0), rfl, ⟨Int32.le_refl _, hn.1, hn.2, hml.1, hml.2⟩, Nat.zero_le _⟩ ⟨hD, by omega, fun j hj => absurd hj (Nat.not_lt_zero _)⟩ rfl rfl rfl (Or.inl rfl) (Or.inl rfl)
