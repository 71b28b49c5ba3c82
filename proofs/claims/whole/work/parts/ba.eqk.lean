/-! both sides: words -/
theorem by_in {f : Row} {n lm : Int32} {q k : Nat} (h0 : 0 ≤ n) (hn : n.toNatClampNeg ≤ 740) (h : q + k < n.toNatClampNeg) : byF (f, n, lm) (nI q + nI k) = f (q + k) := by
  have e : nI q + nI k = nI (q + k) := nI_add q k
  have a : 0 ≤ nI (q + k) := nI_pos' (by omega)
  have b : nI (q + k) < n := by rw [← nI_cl h0]; exact nI_lt h (by omega)
  simp only [byF]
  rw [e, if_pos ⟨a, b⟩, nI_clamp (by omega)]
/-- a literal's letters as digits of 27 -/
def lW (W : List Int32) : Nat → Nat := fun k => (W.getD k 0).toNatClampNeg - 96
theorem lW_b {W : List Int32} {k : Nat} (h : 97 ≤ W.getD k 0 ∧ W.getD k 0 ≤ 122) : 1 ≤ lW W k ∧ lW W k ≤ 26 ∧ (W.getD k 0).toNatClampNeg = lW W k + 96 := by
  have h1 : 97 ≤ (W.getD k 0).toNatClampNeg := (cl_le (x := 97) (by decide) (by have := h.1; grind)).mpr h.1
  have h2 : (W.getD k 0).toNatClampNeg ≤ 122 := (cl_le (y := 122) (by have := h.1; grind) (by decide)).mpr h.2
  simp only [lW]; omega
theorem ky_wd {f : Row} {n l lm : Int32} {t : TS} {s : GS} (hn : 0 ≤ n ∧ n ≤ 740) (h : tJ f n l t s) {W : List Int32} {v : Int64} (hW : ∀ k, k < W.length → 97 ≤ W.getD k 0 ∧ W.getD k 0 ≤ 122) (h5 : W.length ≤ 5) (hv : v = nJ (vN (lW W) W.length)) : wdT (f, n, lm) t W = kyG s v := by
  have N1 : n.toNatClampNeg ≤ 740 := (cl_le hn.1 (show (0 : Int32) ≤ 740 by decide)).mpr hn.2
  have e : (t.2.2.1 = 1 ∧ t.2.1 - t.1 = nI W.length ∧ ∀ k, k < W.length → byF (f, n, lm) (t.1 + nI k) = W.getD k 0) ↔ (s.2.2.1 = 2 ∧ s.2.2.2.2 = v) := by
    rcases h.2 with ⟨a, b⟩ | ⟨a, b, c, q, m, e1, e2, m1, m2, m3, e3, e4⟩ | ⟨a, b, _⟩ | ⟨a, b, _⟩ | ⟨a, b⟩
    · constructor
      · intro z; rw [a] at z; exact absurd z.1 (by decide)
      · intro z
        by_cases q : l < n
        · rw [if_pos q] at b; rw [b] at z; exact absurd z.1 (by decide)
        · rw [if_neg q] at b; rw [b] at z; exact absurd z.1 (by decide)
    · have es : t.2.1 - t.1 = nI m := by rw [e1, e2, nI_subl (by omega), Nat.add_sub_cancel_left]
      have eb : ∀ k, k < m → byF (f, n, lm) (t.1 + nI k) = f (q + k) := fun k hk => by rw [e1]; exact by_in hn.1 N1 (by omega)
      constructor
      · rintro ⟨-, z2, z3⟩
        have em : m = W.length := nI_inj (by omega) (by omega) (es.symm.trans z2)
        refine ⟨b, ?_⟩
        rw [e3, hv, ← em]
        congr 1
        refine vN_cg m (fun k hk => ?_)
        have := (eb k hk).symm.trans (z3 k (by omega))
        simp only [lD, lW, this]
      · rintro ⟨-, z2⟩
        have b1 := vN_b (d := lD f q) m (fun k hk => (lD_b (e4 k hk)).2.1)
        have b2 := vN_b (d := lW W) W.length (fun k hk => (lW_b (hW k hk)).2.1)
        have p1 : 27 ^ m ≤ 27 ^ 5 := Nat.pow_le_pow_right (by omega) (by omega)
        have p2 : 27 ^ W.length ≤ 27 ^ 5 := Nat.pow_le_pow_right (by omega) (by omega)
        have p5 : (27 : Nat) ^ 5 = 14348907 := rfl
        have ev : vN (lD f q) m = vN (lW W) W.length := nJ_inj (by omega) (by omega) (by rw [← e3, z2, hv])
        obtain ⟨em, ed⟩ := vN_inj m W.length (fun k hk => ⟨(lD_b (e4 k hk)).1, (lD_b (e4 k hk)).2.1⟩) (fun k hk => ⟨(lW_b (hW k hk)).1, (lW_b (hW k hk)).2.1⟩) ev
        refine ⟨a, by rw [es, em], fun k hk => ?_⟩
        have hk2 : k < m := by omega
        rw [eb k hk2]
        refine cl_inj (by have := (e4 k hk2).1; grind) (by have := (hW k hk).1; grind) ?_
        rw [(lD_b (e4 k hk2)).2.2, (lW_b (hW k hk)).2.2, ed k hk2]
    · constructor
      · intro z; rw [a] at z; exact absurd z.1 (by decide)
      · intro z; rw [b] at z; exact absurd z.1 (by decide)
    · constructor
      · intro z; rw [a] at z; exact absurd z.1 (by decide)
      · intro z; rw [b] at z; exact absurd z.1 (by decide)
    · constructor
      · intro z; rw [a] at z; exact absurd z.1 (by decide)
      · intro z; rw [b] at z; exact absurd z.1 (by decide)
  simp only [wdT, kyG]
  by_cases z : s.2.2.1 = 2 ∧ s.2.2.2.2 = v
  · rw [if_pos z, if_pos (e.mpr z)]
  · rw [if_neg z, if_neg (fun y => z (e.mp y))]
theorem wk_0 {f : Row} {n l lm : Int32} {t : TS} {s : GS} (hn : 0 ≤ n ∧ n ≤ 740) (h : tJ f n l t s) : wdT (f, n, lm) t (wL 0) = kyG s (spF 102 117 108 108 0) := ky_wd hn h (by decide +kernel) (by decide +kernel) (by decide +kernel)
theorem wk_1 {f : Row} {n l lm : Int32} {t : TS} {s : GS} (hn : 0 ≤ n ∧ n ≤ 740) (h : tJ f n l t s) : wdT (f, n, lm) t (wL 1) = kyG s (spF 102 101 101 100 0) := ky_wd hn h (by decide +kernel) (by decide +kernel) (by decide +kernel)
theorem wk_2 {f : Row} {n l lm : Int32} {t : TS} {s : GS} (hn : 0 ≤ n ∧ n ≤ 740) (h : tJ f n l t s) : wdT (f, n, lm) t (wL 2) = kyG s (spF 99 97 114 0 0) := ky_wd hn h (by decide +kernel) (by decide +kernel) (by decide +kernel)
theorem wk_3 {f : Row} {n l lm : Int32} {t : TS} {s : GS} (hn : 0 ≤ n ∧ n ≤ 740) (h : tJ f n l t s) : wdT (f, n, lm) t (wL 3) = kyG s (spF 111 108 100 0 0) := ky_wd hn h (by decide +kernel) (by decide +kernel) (by decide +kernel)
theorem wk_4 {f : Row} {n l lm : Int32} {t : TS} {s : GS} (hn : 0 ≤ n ∧ n ≤ 740) (h : tJ f n l t s) : wdT (f, n, lm) t (wL 4) = kyG s (spF 113 117 105 99 107) := ky_wd hn h (by decide +kernel) (by decide +kernel) (by decide +kernel)
theorem wk_5 {f : Row} {n l lm : Int32} {t : TS} {s : GS} (hn : 0 ≤ n ∧ n ≤ 740) (h : tJ f n l t s) : wdT (f, n, lm) t (wL 5) = kyG s (spF 115 108 111 119 0) := ky_wd hn h (by decide +kernel) (by decide +kernel) (by decide +kernel)
theorem wk_6 {f : Row} {n l lm : Int32} {t : TS} {s : GS} (hn : 0 ≤ n ∧ n ≤ 740) (h : tJ f n l t s) : wdT (f, n, lm) t (wL 6) = kyG s (spF 111 117 116 0 0) := ky_wd hn h (by decide +kernel) (by decide +kernel) (by decide +kernel)
theorem wk_7 {f : Row} {n l lm : Int32} {t : TS} {s : GS} (hn : 0 ≤ n ∧ n ≤ 740) (h : tJ f n l t s) : wdT (f, n, lm) t (wL 7) = kyG s (spF 107 101 101 112 0) := ky_wd hn h (by decide +kernel) (by decide +kernel) (by decide +kernel)
theorem wk_8 {f : Row} {n l lm : Int32} {t : TS} {s : GS} (hn : 0 ≤ n ∧ n ≤ 740) (h : tJ f n l t s) : wdT (f, n, lm) t (wL 8) = kyG s (spF 108 101 97 107 0) := ky_wd hn h (by decide +kernel) (by decide +kernel) (by decide +kernel)
theorem wk_9 {f : Row} {n l lm : Int32} {t : TS} {s : GS} (hn : 0 ≤ n ∧ n ≤ 740) (h : tJ f n l t s) : wdT (f, n, lm) t (wL 9) = kyG s (spF 104 111 115 101 0) := ky_wd hn h (by decide +kernel) (by decide +kernel) (by decide +kernel)
theorem wk_10 {f : Row} {n l lm : Int32} {t : TS} {s : GS} (hn : 0 ≤ n ∧ n ≤ 740) (h : tJ f n l t s) : wdT (f, n, lm) t (wL 10) = kyG s (spF 115 116 117 99 107) := ky_wd hn h (by decide +kernel) (by decide +kernel) (by decide +kernel)
theorem wk_11 {f : Row} {n l lm : Int32} {t : TS} {s : GS} (hn : 0 ≤ n ∧ n ≤ 740) (h : tJ f n l t s) : wdT (f, n, lm) t (wL 11) = kyG s (spF 111 110 0 0 0) := ky_wd hn h (by decide +kernel) (by decide +kernel) (by decide +kernel)
theorem wk_12 {f : Row} {n l lm : Int32} {t : TS} {s : GS} (hn : 0 ≤ n ∧ n ≤ 740) (h : tJ f n l t s) : wdT (f, n, lm) t (wL 12) = kyG s (spF 111 102 102 0 0) := ky_wd hn h (by decide +kernel) (by decide +kernel) (by decide +kernel)
theorem wk_13 {f : Row} {n l lm : Int32} {t : TS} {s : GS} (hn : 0 ≤ n ∧ n ≤ 740) (h : tJ f n l t s) : wdT (f, n, lm) t (wL 13) = kyG s (spF 98 111 116 104 0) := ky_wd hn h (by decide +kernel) (by decide +kernel) (by decide +kernel)
theorem wk_14 {f : Row} {n l lm : Int32} {t : TS} {s : GS} (hn : 0 ≤ n ∧ n ≤ 740) (h : tJ f n l t s) : wdT (f, n, lm) t (wL 14) = kyG s (spF 108 101 116 0 0) := ky_wd hn h (by decide +kernel) (by decide +kernel) (by decide +kernel)
theorem wk_15 {f : Row} {n l lm : Int32} {t : TS} {s : GS} (hn : 0 ≤ n ∧ n ≤ 740) (h : tJ f n l t s) : wdT (f, n, lm) t (wL 15) = kyG s (spF 104 111 108 100 0) := ky_wd hn h (by decide +kernel) (by decide +kernel) (by decide +kernel)
theorem wk_16 {f : Row} {n l lm : Int32} {t : TS} {s : GS} (hn : 0 ≤ n ∧ n ≤ 740) (h : tJ f n l t s) : wdT (f, n, lm) t (wL 16) = kyG s (spF 100 114 97 119 0) := ky_wd hn h (by decide +kernel) (by decide +kernel) (by decide +kernel)
theorem wk_17 {f : Row} {n l lm : Int32} {t : TS} {s : GS} (hn : 0 ≤ n ∧ n ≤ 740) (h : tJ f n l t s) : wdT (f, n, lm) t (wL 17) = kyG s (spF 100 117 109 112 0) := ky_wd hn h (by decide +kernel) (by decide +kernel) (by decide +kernel)
theorem ky_x {s : GS} {v u : Int64} (h : kyG s v ≠ 0) (hn : v ≠ u) : kyG s u = 0 := by
  have a : s.2.2.1 = 2 ∧ s.2.2.2.2 = v := by
    apply Decidable.byContradiction
    intro z
    exact h (if_neg z)
  exact if_neg (fun z => hn (a.2.symm.trans z.2))
theorem ky_2 {s : GS} {v : Int64} (h : kyG s v ≠ 0) : s.2.2.1 = 2 := by
  apply Decidable.byContradiction
  intro z
  exact h (if_neg (fun y => z y.1))
/-! both sides: what is at hand -/
theorem tJ_st {f : Row} {n l : Int32} {t : TS} {s : GS} (h : tJ f n l t s) (h2 : t.2.2.1 = 1 ∨ t.2.2.1 = 2 ∨ t.2.2.1 = 3) : t.2.1 = s.1 := by
  rcases h.2 with ⟨a, b⟩ | ⟨a, b, c, _⟩ | ⟨a, b, c, _⟩ | ⟨a, b, c⟩ | ⟨a, b⟩
  · rw [a] at h2; exact absurd h2 (by decide)
  · exact c
  · exact c
  · exact c
  · rw [a] at h2; exact absurd h2 (by decide)
theorem tJ_k1 {f : Row} {n l : Int32} {t : TS} {s : GS} (h : tJ f n l t s) : s.2.2.1 = 2 ↔ t.2.2.1 = 1 := by
  rcases h.2 with ⟨a, b⟩ | ⟨a, b, _⟩ | ⟨a, b, _⟩ | ⟨a, b, _⟩ | ⟨a, b⟩
  · by_cases q : l < n
    · rw [if_pos q] at b; rw [a, b]; decide
    · rw [if_neg q] at b; rw [a, b]; decide
  all_goals (rw [a, b]; decide)
theorem tJ_k2 {f : Row} {n l : Int32} {t : TS} {s : GS} (h : tJ f n l t s) : s.2.2.1 = 3 ↔ t.2.2.1 = 2 := by
  rcases h.2 with ⟨a, b⟩ | ⟨a, b, _⟩ | ⟨a, b, _⟩ | ⟨a, b, _⟩ | ⟨a, b⟩
  · by_cases q : l < n
    · rw [if_pos q] at b; rw [a, b]; decide
    · rw [if_neg q] at b; rw [a, b]; decide
  all_goals (rw [a, b]; decide)
theorem tJ_k3 {f : Row} {n l : Int32} {t : TS} {s : GS} (h : tJ f n l t s) : s.2.2.1 = 4 ↔ t.2.2.1 = 3 := by
  rcases h.2 with ⟨a, b⟩ | ⟨a, b, _⟩ | ⟨a, b, _⟩ | ⟨a, b, _⟩ | ⟨a, b⟩
  · by_cases q : l < n
    · rw [if_pos q] at b; rw [a, b]; decide
    · rw [if_neg q] at b; rw [a, b]; decide
  all_goals (rw [a, b]; decide)
theorem tJ_k0 {f : Row} {n l : Int32} {t : TS} {s : GS} (h : tJ f n l t s) (h0 : ¬ t.2.2.1 = 0) : ¬ s.2.2.1 = 0 := by
  rcases h.2 with ⟨a, b⟩ | ⟨a, b, _⟩ | ⟨a, b, _⟩ | ⟨a, b, _⟩ | ⟨a, b⟩
  · exact absurd a h0
  all_goals (rw [b]; decide)
theorem tJ_z {f : Row} {n l : Int32} {t : TS} {s : GS} (h : tJ f n l t s) (h0 : t.2.2.1 = 0) : (l < n ∧ s.2.2.1 = 1) ∨ (¬ l < n ∧ s.2.2.1 = 0) := by
  rcases h.2 with ⟨a, b⟩ | ⟨a, b, _⟩ | ⟨a, b, _⟩ | ⟨a, b, _⟩ | ⟨a, b⟩
  · by_cases q : l < n
    · rw [if_pos q] at b; exact Or.inl ⟨q, b⟩
    · rw [if_neg q] at b; exact Or.inr ⟨q, b⟩
  all_goals (rw [a] at h0; exact absurd h0 (by decide))
theorem tJ_v {f : Row} {n l : Int32} {t : TS} {s : GS} (h : tJ f n l t s) (h2 : t.2.2.1 = 2) : t.2.2.2.1 = s.2.2.2.1 := by
  rcases h.2 with ⟨a, b⟩ | ⟨a, b, _⟩ | ⟨a, b, _, c⟩ | ⟨a, b, _⟩ | ⟨a, b⟩
  · rw [a] at h2; exact absurd h2 (by decide)
  · rw [a] at h2; exact absurd h2 (by decide)
  · exact c
  · rw [a] at h2; exact absurd h2 (by decide)
  · rw [a] at h2; exact absurd h2 (by decide)
/-- reading goes on, no fault so far -/
def uJ (f : Row) (n l : Int32) (t : TS) (x : GX) : Prop := tJ f n l t x.1 ∧ okG (f, n, l) x.1 ∧ t.2.2.2.2.1 = 0 ∧ x.2.1 = 0
/-- a fault was found: its kind, its place -/
def xJ (t : TS) (x : GX) : Prop := t.2.2.2.2.1 = x.2.1 ∧ t.2.2.2.2.2 = x.2.2.1
theorem uJ_rd {f : Row} {n l : Int32} {t : TS} {x : GX} (hn : 0 ≤ n ∧ n ≤ 740) (hl : 0 ≤ l ∧ l ≤ 740) (h : uJ f n l t x) (h2 : t.2.2.1 = 1 ∨ t.2.2.1 = 2 ∨ t.2.2.1 = 3) : uJ f n l (rdT (f, n, mnL n l) t) (gtG (f, n, l) x) := by
  refine ⟨rd_e hn hl (tJ_st h.1 h2) ⟨h.2.1.1, h.2.1.2.1⟩, okG_go h.2.1, ?_, h.2.2.2⟩
  show ((rdT (f, n, mnL n l) t).2.2.2.2).1 = 0
  rw [rdT_fp]
  exact h.2.2.1
theorem xJ_rf {f : Row} {n l : Int32} {t : TS} {x : GX} {k : Int32} (h : uJ f n l t x) (hk : k = 1 ∨ ¬ x.1.2.2.1 = 1) : xJ (rfT k t) (bdG k x) := by
  refine ⟨?_, h.1.1⟩
  show k = if x.1.2.2.1 = 1 then 1 else k
  rcases hk with hk | hk
  · rw [hk]; by_cases q : x.1.2.2.1 = 1
    · rw [if_pos q]
    · rw [if_neg q]
  · rw [if_neg hk]
theorem tn_e {f : Row} {n l : Int32} {t : TS} {x : GX} (hn : 0 ≤ n ∧ n ≤ 740) (hl : 0 ≤ l ∧ l ≤ 740) {a b : Int32} (ha : 0 ≤ a) (h : uJ f n l t x) :
    ((tnT (f, n, mnL n l) a b t).1 = (-1) ∧ (rnG (f, n, l) a b x).1 = 0 ∧ xJ (tnT (f, n, mnL n l) a b t).2 (rnG (f, n, l) a b x).2) ∨
    (¬ (tnT (f, n, mnL n l) a b t).1 = (-1) ∧ ¬ (rnG (f, n, l) a b x).1 = 0 ∧ uJ f n l (tnT (f, n, mnL n l) a b t).2 (rnG (f, n, l) a b x).2 ∧ (rnG (f, n, l) a b x).2.2.2.2 = (tnT (f, n, mnL n l) a b t).1 ∧ a ≤ (tnT (f, n, mnL n l) a b t).1 ∧ (tnT (f, n, mnL n l) a b t).1 ≤ b) := by
  by_cases q : t.2.2.1 = 2
  · have kx : x.1.2.2.1 = 3 := (tJ_k2 h.1).mpr q
    have ev := tJ_v h.1 q
    by_cases r : t.2.2.2.1 < a ∨ b < t.2.2.2.1
    · have r2 : ¬ (a ≤ x.1.2.2.2.1 ∧ x.1.2.2.2.1 ≤ b) := by rw [← ev]; rintro ⟨z1, z2⟩; rcases r with r | r <;> grind
      have e1 : tnT (f, n, mnL n l) a b t = ((-1), rfT 2 t) := (if_neg (not_not_intro q)).trans (if_pos r)
      have e2 : rnG (f, n, l) a b x = (0, bdG 2 x) := (if_neg (not_not_intro kx)).trans (if_pos r2)
      rw [e1, e2]
      exact Or.inl ⟨rfl, rfl, xJ_rf h (Or.inr (by rw [kx]; decide))⟩
    · have r1 : a ≤ t.2.2.2.1 ∧ t.2.2.2.1 ≤ b := by constructor <;> grind
      have e1 : tnT (f, n, mnL n l) a b t = (t.2.2.2.1, rdT (f, n, mnL n l) t) := (if_neg (not_not_intro q)).trans (if_neg r)
      have e2 : rnG (f, n, l) a b x = (1, (goG (f, n, l) x.1, x.2.1, x.2.2.1, x.1.2.2.2.1)) := (if_neg (not_not_intro kx)).trans (if_neg (not_not_intro (by rw [← ev]; exact r1)))
      rw [e1, e2]
      have u := uJ_rd hn hl h (Or.inr (Or.inl q))
      exact Or.inr ⟨fun z => by have z : t.2.2.2.1 = (-1) := z; grind, (by show ¬ (1 : Int32) = 0; decide), ⟨u.1, u.2.1, u.2.2.1, u.2.2.2⟩, ev.symm, r1.1, r1.2⟩
  · have kx : ¬ x.1.2.2.1 = 3 := fun z => q ((tJ_k2 h.1).mp z)
    have e1 : tnT (f, n, mnL n l) a b t = ((-1), rfT 1 t) := if_pos q
    have e2 : rnG (f, n, l) a b x = (0, bdG 1 x) := if_pos kx
    rw [e1, e2]
    exact Or.inl ⟨rfl, rfl, xJ_rf h (Or.inl rfl)⟩
theorem tm_e {f : Row} {n l : Int32} {t : TS} {x : GX} (hn : 0 ≤ n ∧ n ≤ 740) (hl : 0 ≤ l ∧ l ≤ 740) (h : uJ f n l t x) :
    ((tmT (f, n, mnL n l) t).1 = 0 ∧ (rmG (f, n, l) x).1 = 0 ∧ xJ (tmT (f, n, mnL n l) t).2 (rmG (f, n, l) x).2) ∨
    (¬ (tmT (f, n, mnL n l) t).1 = 0 ∧ (rmG (f, n, l) x).1 = 1 ∧ uJ f n l (tmT (f, n, mnL n l) t).2 (rmG (f, n, l) x).2 ∧ (tmT (f, n, mnL n l) t).2 = rdT (f, n, mnL n l) t ∧ t.2.1 = x.1.1) := by
  by_cases q : t.2.2.1 = 3
  · have kx : x.1.2.2.1 = 4 := (tJ_k3 h.1).mpr q
    have e1 : tmT (f, n, mnL n l) t = (1, rdT (f, n, mnL n l) t) := if_neg (not_not_intro q)
    have e2 : rmG (f, n, l) x = (1, gtG (f, n, l) x) := if_neg (not_not_intro kx)
    rw [e1, e2]
    exact Or.inr ⟨(by show ¬ (1 : Int32) = 0; decide), rfl, uJ_rd hn hl h (Or.inr (Or.inr q)), rfl, tJ_st h.1 (Or.inr (Or.inr q))⟩
  · have kx : ¬ x.1.2.2.1 = 4 := fun z => q ((tJ_k3 h.1).mp z)
    have e1 : tmT (f, n, mnL n l) t = (0, rfT 1 t) := if_pos q
    have e2 : rmG (f, n, l) x = (0, bdG 1 x) := if_pos kx
    rw [e1, e2]
    exact Or.inl ⟨rfl, rfl, xJ_rf h (Or.inl rfl)⟩
theorem tm_no {f : Row} {n l : Int32} {t : TS} {x : GX} (h : uJ f n l t x) (h1 : t.2.2.1 = 1) : (tmT (f, n, mnL n l) t).1 = 0 ∧ xJ (tmT (f, n, mnL n l) t).2 (bdG 1 x) := by
  have e1 : tmT (f, n, mnL n l) t = (0, rfT 1 t) := if_pos (by rw [h1]; decide)
  rw [e1]
  exact ⟨rfl, xJ_rf h (Or.inl rfl)⟩
/-- a token of a kind of its own -/
theorem rd_pos {P : TP} {s : TS} (h : okT P s) (h1 : ¬ (rdT P s).2.2.1 = 0) : s.2.1.toNatClampNeg ≤ (rdT P s).1.toNatClampNeg ∧ (rdT P s).1.toNatClampNeg < P.2.2.toNatClampNeg := by
  obtain ⟨a1, a2, a3, a4, a5⟩ := h
  have h0 : 0 ≤ P.2.1 := by grind
  have e : P.2.1.toNatClampNeg ≤ 740 := (cl_le h0 (show (0 : Int32) ≤ 740 by decide)).mpr a3
  have e5 := (cl_le a4 h0).mpr a5
  have e1 := skR_le P.1 (P.2.2.toNatClampNeg - s.2.1.toNatClampNeg) s.2.1.toNatClampNeg
  revert h1
  simp only [rdT]
  generalize skR P.1 (P.2.2.toNatClampNeg - s.2.1.toNatClampNeg) s.2.1.toNatClampNeg = p at e1
  split
  · exact fun z => absurd rfl z
  · rename_i q
    have ep : (nI p).toNatClampNeg = p := nI_clamp (by omega)
    split
    · intro _
      show s.2.1.toNatClampNeg ≤ (nI p).toNatClampNeg ∧ (nI p).toNatClampNeg < P.2.2.toNatClampNeg
      omega
    · intro _
      show s.2.1.toNatClampNeg ≤ (nI p).toNatClampNeg ∧ (nI p).toNatClampNeg < P.2.2.toNatClampNeg
      omega
