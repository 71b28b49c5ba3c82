/-! both sides: the text of a handle -/
theorem ac_e {f : Row} {n l lm : Int32} {t : TS} {s : GS} (hn : 0 ≤ n ∧ n ≤ 740) (h : tJ f n l t s) : acT (f, n, lm) t = whS s ∧ (¬ whS s = (-1) → t.2.2.1 = 1) ∧ (dwG s = 0 ↔ ¬ whS s = 2) ∧ (whS s = (-1) ∨ (0 ≤ whS s ∧ whS s ≤ 3)) := by
  have e : acT (f, n, lm) t = whS s := by
    simp only [acT, whS, wk_14 hn h, wk_15 hn h, wk_16 hn h, wk_17 hn h]; rfl
  refine ⟨e, ?_⟩
  simp only [whS]
  by_cases q1 : kyG s (spF 108 101 116 0 0) = 0
  · by_cases q2 : kyG s (spF 104 111 108 100 0) = 0
    · by_cases q3 : dwG s = 0
      · by_cases q4 : kyG s (spF 100 117 109 112 0) = 0
        · rw [if_neg (not_not_intro q1), if_neg (not_not_intro q2), if_neg (not_not_intro q3), if_neg (not_not_intro q4)]
          exact ⟨fun z => absurd rfl z, ⟨fun _ => by decide, fun _ => q3⟩, Or.inl rfl⟩
        · rw [if_neg (not_not_intro q1), if_neg (not_not_intro q2), if_neg (not_not_intro q3), if_pos q4]
          exact ⟨fun _ => (tJ_k1 h).mp (ky_2 q4), ⟨fun _ => by decide, fun _ => q3⟩, Or.inr ⟨by decide, by decide⟩⟩
      · rw [if_neg (not_not_intro q1), if_neg (not_not_intro q2), if_pos q3]
        exact ⟨fun _ => (tJ_k1 h).mp (ky_2 q3), ⟨fun z => absurd z q3, fun z => absurd rfl z⟩, Or.inr ⟨by decide, by decide⟩⟩
    · have x3 : dwG s = 0 := ky_x q2 (by decide +kernel)
      rw [if_neg (not_not_intro q1), if_pos q2]
      exact ⟨fun _ => (tJ_k1 h).mp (ky_2 q2), ⟨fun _ => by decide, fun _ => x3⟩, Or.inr ⟨by decide, by decide⟩⟩
  · have x3 : dwG s = 0 := ky_x q1 (by decide +kernel)
    rw [if_pos q1]
    exact ⟨fun _ => (tJ_k1 h).mp (ky_2 q1), ⟨fun _ => by decide, fun _ => x3⟩, Or.inr ⟨by decide, by decide⟩⟩
/-- the draft's steps against those behind the twentieth -/
def HJ (L : LV) (W D G : Row) (m : Nat) : Prop := L.1 = nI m ∧ m ≤ 20 ∧ (∀ j, j < m → L.2.2.1 j = W (20 + j) ∧ (L.2.2.1 j = 2 → L.2.2.2.1 j = D (20 + j) ∧ 0 ≤ D (20 + j) ∧ D (20 + j) ≤ 99) ∧ (1 ≤ G (20 + j) ∧ G (20 + j) ≤ 99)) ∧ ∀ j, j < m → L.2.2.2.2 j = sumR (fun k => G (20 + k)) (j + 1)
theorem sum_cg {f g : Row} : ∀ m, (∀ k, k < m → f k = g k) → sumR f m = sumR g m := by
  intro m
  induction m with
  | zero => intro _; rfl
  | succ m ih => intro h; simp only [sumR]; rw [ih (fun k hk => h k (by omega)), h m (by omega)]
theorem iy_e {m : Nat} (h : m < 100) : (20 + nI m).toNatClampNeg = 20 + m := by
  rw [show (20 : Int32) = nI 20 from rfl, nI_add, nI_clamp (by omega)]
theorem HJ_add {L : LV} {W D D2 G : Row} {m : Nat} {a am tk : Int32} (h : HJ L W D G m) (hm : m < 20) (hD : ∀ j, j < m → D2 (20 + j) = D (20 + j)) (ha : a = 2 → am = D2 (20 + m) ∧ 0 ≤ D2 (20 + m) ∧ D2 (20 + m) ≤ 99) (ht : 1 ≤ tk ∧ tk ≤ 99) : HJ (addL L a am tk) (upd W (20 + nI m).toNatClampNeg a) D2 (upd G (20 + nI m).toNatClampNeg tk) (m + 1) := by
  obtain ⟨h1, h2, h3, h4⟩ := h
  have ec : (nI m).toNatClampNeg = m := nI_clamp (by omega)
  rw [iy_e (show m < 100 by omega)]
  refine ⟨by show L.1 + 1 = nI (m + 1); rw [h1, nI_1], by omega, fun j hj => ?_, fun j hj => ?_⟩
  · simp only [addL, h1, ec]
    by_cases q : j = m
    · subst q
      simp (disch := omega) only [upd_s, upd_n]
      exact ⟨trivial, ha, ht⟩
    · simp (disch := omega) only [upd_s, upd_n]
      rw [hD j (by omega)]
      exact h3 j (by omega)
  · have es : ∀ i, i ≤ m → sumR (fun k => upd G (20 + m) tk (20 + k)) i = sumR (fun k => G (20 + k)) i := fun i hi => sum_cg i (fun k hk => upd_n _ _ (by omega))
    simp only [addL, h1, ec]
    by_cases q : j = m
    · subst q
      rw [upd_s]
      simp only [sumR]
      rw [es j (Nat.le_refl _), upd_s]
      congr 1
      simp only [alF, h1]
      by_cases z : j = 0
      · subst z
        rw [if_neg (fun y => absurd y.1 (by decide))]
        rfl
      · rw [if_pos ⟨nI_le (a := 1) (by omega) (by omega), nI_le (b := 20) (by omega) (by omega)⟩]
        obtain ⟨i, rfl⟩ : ∃ i, j = i + 1 := ⟨j - 1, by omega⟩
        rw [nI_pred, nI_clamp (by omega)]
        exact h4 i (by omega)
    · rw [upd_n _ _ q, es (j + 1) (by omega)]
      exact h4 j (by omega)
/-- a step and its mark: both have failed, or both go on -/
def spE (f : Row) (n l : Int32) (m : Nat) (c : Int32 × TS × LV) (g : Int32 × GX × Row × Row × Row × Int32) : Prop :=
  (g.1 = 0 ∧ ((c.1 = 0 ∧ xJ c.2.1 g.2.1) ∨ (¬ c.1 = 0 ∧ (tmT (f, n, mnL n l) c.2.1).1 = 0 ∧ xJ (tmT (f, n, mnL n l) c.2.1).2 g.2.1))) ∨
  (¬ g.1 = 0 ∧ ¬ c.1 = 0 ∧ ¬ (tmT (f, n, mnL n l) c.2.1).1 = 0 ∧ uJ f n l (tmT (f, n, mnL n l) c.2.1).2 g.2.1 ∧ HJ c.2.2 g.2.2.1 g.2.2.2.1 g.2.2.2.2.1 (m + 1) ∧ g.2.2.2.2.2 = nI (m + 1))
theorem sp_e {f : Row} {n l : Int32} {t : TS} {x : GX} {L : LV} {W D G : Row} {m : Nat} (hn : 0 ≤ n ∧ n ≤ 740) (hl : 0 ≤ l ∧ l ≤ 740) (h : uJ f n l t x) (hH : HJ L W D G m) :
    spE f n l m (stT (f, n, mnL n l) t L) (tsG (f, n, l) x W D G (nI m)) := by
  have z10 : ¬ (1 : Int32) = 0 := by decide
  obtain ⟨a1, a2, a3, a4⟩ := ac_e (lm := mnL n l) hn h.1
  by_cases q1 : whS x.1 = (-1)
  · have e1 : stT (f, n, mnL n l) t L = (0, rfT 1 t, L) := if_pos (a1.trans q1)
    have e2 : tsG (f, n, l) x W D G (nI m) = (0, bdG 1 x, W, D, G, nI m) := if_pos q1
    rw [e1, e2]
    exact Or.inl ⟨rfl, Or.inl ⟨rfl, xJ_rf h (Or.inl rfl)⟩⟩
  · have f1 := a2 q1
    have k2 : x.1.2.2.1 = 2 := (tJ_k1 h.1).mpr f1
    have n1 : ¬ acT (f, n, mnL n l) t = (-1) := by rw [a1]; exact q1
    by_cases q2 : m = 20
    · have e1 : stT (f, n, mnL n l) t L = (0, rfT 4 t, L) := (if_neg n1).trans (if_pos (by rw [hH.1, q2]; decide))
      have e2 : tsG (f, n, l) x W D G (nI m) = (0, bdG 4 x, W, D, G, nI m) := (if_neg q1).trans (if_pos (by rw [q2]; rfl))
      rw [e1, e2]
      exact Or.inl ⟨rfl, Or.inl ⟨rfl, xJ_rf h (Or.inr (by rw [k2]; decide))⟩⟩
    · have hm : m < 20 := by have := hH.2.1; omega
      have lt : L.1 < 20 := by rw [hH.1]; exact nI_lt (b := 20) hm (by omega)
      have ne : ¬ nI m = 20 := fun z => q2 (nI_inj (b := 20) (by omega) (by omega) z)
      have u1 := uJ_rd hn hl h (Or.inl f1)
      -- the amount
      have am : ((amT (f, n, mnL n l) (acT (f, n, mnL n l) t) (rdT (f, n, mnL n l) t)).1 = (-1) ∧ (daG (f, n, l) (dwG x.1) (gtG (f, n, l) x) D (20 + nI m)).1 = 0 ∧ xJ (amT (f, n, mnL n l) (acT (f, n, mnL n l) t) (rdT (f, n, mnL n l) t)).2 (daG (f, n, l) (dwG x.1) (gtG (f, n, l) x) D (20 + nI m)).2.1) ∨
          (¬ (amT (f, n, mnL n l) (acT (f, n, mnL n l) t) (rdT (f, n, mnL n l) t)).1 = (-1) ∧ ¬ (daG (f, n, l) (dwG x.1) (gtG (f, n, l) x) D (20 + nI m)).1 = 0 ∧ uJ f n l (amT (f, n, mnL n l) (acT (f, n, mnL n l) t) (rdT (f, n, mnL n l) t)).2 (daG (f, n, l) (dwG x.1) (gtG (f, n, l) x) D (20 + nI m)).2.1 ∧ (∀ j, j < m → (daG (f, n, l) (dwG x.1) (gtG (f, n, l) x) D (20 + nI m)).2.2 (20 + j) = D (20 + j)) ∧ (acT (f, n, mnL n l) t = 2 → (amT (f, n, mnL n l) (acT (f, n, mnL n l) t) (rdT (f, n, mnL n l) t)).1 = (daG (f, n, l) (dwG x.1) (gtG (f, n, l) x) D (20 + nI m)).2.2 (20 + m) ∧ 0 ≤ (daG (f, n, l) (dwG x.1) (gtG (f, n, l) x) D (20 + nI m)).2.2 (20 + m) ∧ (daG (f, n, l) (dwG x.1) (gtG (f, n, l) x) D (20 + nI m)).2.2 (20 + m) ≤ 99)) := by
        by_cases q3 : whS x.1 = 2
        · have d1 : ¬ dwG x.1 = 0 := fun z => (a3.mp z) q3
          have e1 : amT (f, n, mnL n l) (acT (f, n, mnL n l) t) (rdT (f, n, mnL n l) t) = tnT (f, n, mnL n l) 1 99 (rdT (f, n, mnL n l) t) := if_pos (a1.trans q3)
          have e2 : daG (f, n, l) (dwG x.1) (gtG (f, n, l) x) D (20 + nI m) = if (rnG (f, n, l) 1 99 (gtG (f, n, l) x)).1 = 0 then (0, (rnG (f, n, l) 1 99 (gtG (f, n, l) x)).2, D) else (1, (rnG (f, n, l) 1 99 (gtG (f, n, l) x)).2, upd D (20 + nI m).toNatClampNeg (rnG (f, n, l) 1 99 (gtG (f, n, l) x)).2.2.2.2) := if_neg d1
          rw [e1, e2]
          rcases tn_e hn hl (a := 1) (b := 99) (by decide) u1 with ⟨b1, b2, b3⟩ | ⟨b1, b2, b3, b4, b5, b6⟩
          · rw [if_pos b2]; exact Or.inl ⟨b1, rfl, b3⟩
          · rw [if_neg b2, iy_e (show m < 100 by omega), b4]
            refine Or.inr ⟨b1, z10, b3, fun j hj => upd_n _ _ (by omega), fun _ => ?_⟩
            dsimp only
            rw [upd_s]
            exact ⟨rfl, by grind, b6⟩
        · have e1 : amT (f, n, mnL n l) (acT (f, n, mnL n l) t) (rdT (f, n, mnL n l) t) = (0, rdT (f, n, mnL n l) t) := if_neg (by rw [a1]; exact q3)
          have e2 : daG (f, n, l) (dwG x.1) (gtG (f, n, l) x) D (20 + nI m) = (1, gtG (f, n, l) x, D) := if_pos (a3.mpr q3)
          rw [e1, e2]
          exact Or.inr ⟨(by show ¬ (0 : Int32) = (-1); decide), z10, u1, fun _ _ => rfl, fun z => absurd (a1.symm.trans z) q3⟩
      have eA : stT (f, n, mnL n l) t L = if (amT (f, n, mnL n l) (acT (f, n, mnL n l) t) (rdT (f, n, mnL n l) t)).1 = (-1) then (0, (amT (f, n, mnL n l) (acT (f, n, mnL n l) t) (rdT (f, n, mnL n l) t)).2, L) else if (tnT (f, n, mnL n l) 1 99 (amT (f, n, mnL n l) (acT (f, n, mnL n l) t) (rdT (f, n, mnL n l) t)).2).1 = (-1) then (0, (tnT (f, n, mnL n l) 1 99 (amT (f, n, mnL n l) (acT (f, n, mnL n l) t) (rdT (f, n, mnL n l) t)).2).2, L) else (1, (tnT (f, n, mnL n l) 1 99 (amT (f, n, mnL n l) (acT (f, n, mnL n l) t) (rdT (f, n, mnL n l) t)).2).2, addL L (acT (f, n, mnL n l) t) (amT (f, n, mnL n l) (acT (f, n, mnL n l) t) (rdT (f, n, mnL n l) t)).1 (tnT (f, n, mnL n l) 1 99 (amT (f, n, mnL n l) (acT (f, n, mnL n l) t) (rdT (f, n, mnL n l) t)).2).1) := (if_neg n1).trans (if_neg (not_not_intro lt))
      have eB : tsG (f, n, l) x W D G (nI m) = if (daG (f, n, l) (dwG x.1) (gtG (f, n, l) x) D (20 + nI m)).1 = 0 then (0, (daG (f, n, l) (dwG x.1) (gtG (f, n, l) x) D (20 + nI m)).2.1, W, (daG (f, n, l) (dwG x.1) (gtG (f, n, l) x) D (20 + nI m)).2.2, G, nI m)
          else if (rnG (f, n, l) 1 99 (daG (f, n, l) (dwG x.1) (gtG (f, n, l) x) D (20 + nI m)).2.1).1 = 0 then (0, (rnG (f, n, l) 1 99 (daG (f, n, l) (dwG x.1) (gtG (f, n, l) x) D (20 + nI m)).2.1).2, W, (daG (f, n, l) (dwG x.1) (gtG (f, n, l) x) D (20 + nI m)).2.2, G, nI m)
          else ((rmG (f, n, l) (rnG (f, n, l) 1 99 (daG (f, n, l) (dwG x.1) (gtG (f, n, l) x) D (20 + nI m)).2.1).2).1, (rmG (f, n, l) (rnG (f, n, l) 1 99 (daG (f, n, l) (dwG x.1) (gtG (f, n, l) x) D (20 + nI m)).2.1).2).2, upd W (20 + nI m).toNatClampNeg (whS x.1), (daG (f, n, l) (dwG x.1) (gtG (f, n, l) x) D (20 + nI m)).2.2, upd G (20 + nI m).toNatClampNeg (rnG (f, n, l) 1 99 (daG (f, n, l) (dwG x.1) (gtG (f, n, l) x) D (20 + nI m)).2.1).2.2.2.2, nI m + 1) := (if_neg q1).trans (if_neg ne)
      rw [eA, eB]
      generalize amT (f, n, mnL n l) (acT (f, n, mnL n l) t) (rdT (f, n, mnL n l) t) = A9 at am ⊢
      generalize daG (f, n, l) (dwG x.1) (gtG (f, n, l) x) D (20 + nI m) = B9 at am ⊢
      rcases am with ⟨b1, b2, b3⟩ | ⟨b1, b2, b3, b4, b5⟩
      · rw [if_pos b1, if_pos b2]
        exact Or.inl ⟨rfl, Or.inl ⟨rfl, b3⟩⟩
      · rw [if_neg b1, if_neg b2]
        rcases tn_e hn hl (a := 1) (b := 99) (by decide) b3 with ⟨c1, c2, c3⟩ | ⟨c1, c2, c3, c4, c5⟩
        · rw [if_pos c1, if_pos c2]
          exact Or.inl ⟨rfl, Or.inl ⟨rfl, c3⟩⟩
        · rw [if_neg c1, if_neg c2, c4, ← a1, nI_1]
          have r := HJ_add (a := acT (f, n, mnL n l) t) (am := A9.1) (tk := (tnT (f, n, mnL n l) 1 99 A9.2).1) hH hm b4 b5 c5
          rcases tm_e hn hl c3 with ⟨d1, d2, d3⟩ | ⟨d1, d2, d3, -, -⟩
          · exact Or.inl ⟨d2, Or.inr ⟨z10, d1, d3⟩⟩
          · exact Or.inr ⟨(by show ¬ (rmG (f, n, l) (rnG (f, n, l) 1 99 B9.2.1).2).1 = 0; rw [d2]; exact z10), z10, d1, d3, r, rfl⟩
/-- a handle's text read: a fault of both, or the same handle -/
def hdJ (c : Int32 × TS × LV) (g : Int32 × HSt) : Prop :=
  (c.1 = (-1) ∧ g.1 = 0 ∧ xJ c.2.1 g.2.1) ∨
  (¬ c.1 = (-1) ∧ ¬ g.1 = 0 ∧ c.2.1.2.2.2.2.1 = g.2.1.2.1 ∧ ∃ q, HJ c.2.2 g.2.2.1 g.2.2.2.1 g.2.2.2.2.1 q ∧ c.1 = nI q ∧ g.2.2.2.2.2 = nI q)
theorem hs_z {P : TP} {m : Nat} {s : TS} {L : LV} (h : s.2.2.1 = 0) : hsR P m s L = (L.1, s, L) := by
  cases m with
  | zero => rfl
  | succ m => exact if_pos h
theorem hs_e {f : Row} {n l : Int32} (hn : 0 ≤ n ∧ n ≤ 740) (hl : 0 ≤ l ∧ l ≤ 740) : ∀ (m k : Nat) {F : Nat} {t : TS} {L : LV} {y : HSt}, k + m = 21 → 741 - y.1.1.1.toNatClampNeg ≤ F → uJ f n l t y.1 → HJ L y.2.1 y.2.2.1 y.2.2.2.1 k → y.2.2.2.2 = nI k →
    hdJ (hrE (f, n, mnL n l) (hsR (f, n, mnL n l) m t L)) (hlG (f, n, l) F y) := by
  have N1 : n.toNatClampNeg ≤ 740 := (cl_le hn.1 (show (0 : Int32) ≤ 740 by decide)).mpr hn.2
  intro m
  induction m with
  | zero => intro k F t L y hk hF h hH h1; have := hH.2.1; omega
  | succ m ih =>
    intro k F t L y hk hF h hH h1
    have to1 : y.1.1.1.toNatClampNeg ≤ n.toNatClampNeg := (cl_le h.2.1.1 hn.1).mpr h.2.1.2.1
    have hF1 : 1 ≤ F := by omega
    by_cases h0 : t.2.2.1 = 0
    · rw [hs_z h0]
      have eA : hrE (f, n, mnL n l) (L.1, t, L) = if mnL n l < n then ((-1), rfT 1 t, L) else (L.1, t, L) := if_neg (by rw [hH.1]; exact nI_n1 (by omega))
      rw [eA]
      rcases tJ_z h.1 h0 with ⟨ql, kx⟩ | ⟨ql, kx⟩
      · have em : mnL n l = l := if_neg (by grind)
        have nk : ¬ y.1.1.2.2.1 = 2 := by rw [kx]; decide
        have c0 : ∀ v, kyG y.1.1 v = 0 := fun v => if_neg (fun z => nk z.1)
        have w0 : whS y.1.1 = (-1) := (if_neg (not_not_intro (c0 _))).trans ((if_neg (not_not_intro (c0 _))).trans ((if_neg (not_not_intro (c0 _))).trans (if_neg (not_not_intro (c0 _)))))
        have e2 : tsG (f, n, l) y.1 y.2.1 y.2.2.1 y.2.2.2.1 y.2.2.2.2 = (0, bdG 1 y.1, y.2.1, y.2.2.1, y.2.2.2.1, y.2.2.2.2) := if_pos w0
        have e3 : hlG (f, n, l) F y = (0, (tsG (f, n, l) y.1 y.2.1 y.2.2.1 y.2.2.2.1 y.2.2.2.2).2) := hl_no (by rw [kx]; decide) (by rw [e2]) hF1
        rw [if_pos (by rw [em]; exact ql), e3, e2]
        exact Or.inl ⟨rfl, rfl, xJ_rf h (Or.inl rfl)⟩
      · have em : ¬ mnL n l < n := by
          show ¬ (if n < l then n else l) < n
          by_cases z : n < l
          · rw [if_pos z]; grind
          · rw [if_neg z]; exact ql
        have e3 : hlG (f, n, l) F y = (1, y) := hl_st kx hF1
        rw [if_neg em, e3]
        exact Or.inr ⟨by show ¬ L.1 = (-1); rw [hH.1]; exact nI_n1 (by omega), (by show ¬ (1 : Int32) = 0; decide), h.2.2.1.trans h.2.2.2.symm, k, hH, hH.1, h1⟩
    · have k0 : ¬ y.1.1.2.2.1 = 0 := tJ_k0 h.1 h0
      have o := sp_e hn hl h hH
      rw [← h1] at o
      have hto := fun z => ts_to (P := (f, n, l)) (x := y.1) (W := y.2.1) (D := y.2.2.1) (G := y.2.2.2.1) (rs := y.2.2.2.2) h.2.1 z
      have eA : hsR (f, n, mnL n l) (m + 1) t L = if (stT (f, n, mnL n l) t L).1 = 0 then ((-1), (stT (f, n, mnL n l) t L).2) else if (tmT (f, n, mnL n l) (stT (f, n, mnL n l) t L).2.1).1 = 0 then ((-1), (tmT (f, n, mnL n l) (stT (f, n, mnL n l) t L).2.1).2, (stT (f, n, mnL n l) t L).2.2) else hsR (f, n, mnL n l) m (tmT (f, n, mnL n l) (stT (f, n, mnL n l) t L).2.1).2 (stT (f, n, mnL n l) t L).2.2 := if_neg h0
      have eN := fun z => hl_no (P := (f, n, l)) (m := F) (y := y) k0 z hF1
      have eG := fun z => hl_go (P := (f, n, l)) (m := F) (y := y) k0 z hF1
      rw [eA]
      generalize stT (f, n, mnL n l) t L = c9 at o ⊢
      generalize tsG (f, n, l) y.1 y.2.1 y.2.2.1 y.2.2.2.1 y.2.2.2.2 = g9 at o hto eN eG
      rcases o with ⟨b1, b2⟩ | ⟨b1, b2, b3, b4, b5, b6⟩
      · rw [eN b1]
        rcases b2 with ⟨b3, b4⟩ | ⟨b3, b4, b5⟩
        · rw [if_pos b3]
          have e5 : hrE (f, n, mnL n l) ((-1), c9.2) = ((-1), c9.2) := if_pos rfl
          rw [e5]
          exact Or.inl ⟨rfl, rfl, b4⟩
        · rw [if_neg b3, if_pos b4]
          have e5 : hrE (f, n, mnL n l) ((-1), (tmT (f, n, mnL n l) c9.2.1).2, c9.2.2) = ((-1), (tmT (f, n, mnL n l) c9.2.1).2, c9.2.2) := if_pos rfl
          rw [e5]
          exact Or.inl ⟨rfl, rfl, b5⟩
      · rw [if_neg b2, if_neg b3, eG b1]
        have := (hto b1).1
        exact ih (k + 1) (by omega) (by omega) b4 b5 b6
/-- handle(), both sides -/
theorem handle_e {f : Row} {n a b v fr kd nu pl to : Int32} {wo : Int64} {A B C W D G : Row} (hn : 0 ≤ n ∧ n ≤ 740) :
    hdJ (hrT (f, n, mnL n 300) (rdT (f, n, mnL n 300) (a, 0, b, v, 0, 0)) A B C) (hdG (f, n, 300) ((0, fr, kd, nu, wo), 0, pl, to) W D G) ∧
    (¬ (hdG (f, n, 300) ((0, fr, kd, nu, wo), 0, pl, to) W D G).1 = 0 → (hrT (f, n, mnL n 300) (rdT (f, n, mnL n 300) (a, 0, b, v, 0, 0)) A B C).2.2.2.1 = bhG (gtG (f, n, 300) ((0, fr, kd, nu, wo), 0, pl, to)).1) := by
  have hl : (0 : Int32) ≤ 300 ∧ (300 : Int32) ≤ 740 := ⟨by decide, by decide⟩
  have ok : okG (f, n, 300) (0, fr, kd, nu, wo) := ⟨Int32.le_refl _, hn.1, hn.2, hl.1⟩
  have h0 : uJ f n 300 (rdT (f, n, mnL n 300) (a, 0, b, v, 0, 0)) (gtG (f, n, 300) ((0, fr, kd, nu, wo), 0, pl, to)) := by
    refine ⟨rd_e hn hl rfl ⟨Int32.le_refl _, hn.1⟩, okG_go ok, ?_, rfl⟩
    show ((rdT (f, n, mnL n 300) (a, 0, b, v, 0, 0)).2.2.2.2).1 = 0
    rw [rdT_fp]
  generalize rdT (f, n, mnL n 300) (a, 0, b, v, 0, 0) = t at h0 ⊢
  simp only [hdG]
  generalize gtG (f, n, 300) ((0, fr, kd, nu, wo), 0, pl, to) = x at h0 ⊢
  have w13 : wdT (f, n, mnL n 300) t (wL 13) = bhG x.1 := wk_13 hn h0.1
  have key : ∀ (t2 : TS) (y : GX) (bo : Int32), uJ f n 300 t2 y → hdJ (hrE (f, n, mnL n 300) (hsR (f, n, mnL n 300) 21 t2 (0, bo, A, B, C))) (hlG (f, n, 300) 741 (y, W, D, G, 0)) := fun t2 y bo hy =>
    hs_e hn hl 21 0 (y := (y, W, D, G, 0)) rfl (by omega) hy ⟨rfl, by omega, fun j hj => absurd hj (Nat.not_lt_zero _), fun j hj => absurd hj (Nat.not_lt_zero _)⟩ rfl
  have bo : ∀ (t2 : TS) (bo : Int32), (hrE (f, n, mnL n 300) (hsR (f, n, mnL n 300) 21 t2 (0, bo, A, B, C))).2.2.2.1 = bo := fun t2 bo => by
    have e := hsR_bo (P := (f, n, mnL n 300)) 21 t2 (0, bo, A, B, C)
    refine Eq.trans ?_ e
    simp only [hrE]; split
    · rfl
    · split <;> rfl
  by_cases q : bhG x.1 = 0
  · have e1 : hbT (f, n, mnL n 300) t = (1, t, 0) := if_neg (by rw [w13]; exact not_not_intro q)
    have e2 : hbG (f, n, 300) x = (1, x) := if_pos q
    have e3 : hrT (f, n, mnL n 300) t A B C = hrE (f, n, mnL n 300) (hsR (f, n, mnL n 300) 21 t (0, 0, A, B, C)) := by
      simp only [hrT]; rw [e1]; exact if_neg (show ¬ (1 : Int32) = 0 by decide)
    rw [e3, e2, if_neg (show ¬ (1 : Int32) = 0 by decide)]
    exact ⟨key t x 0 h0, fun _ => (bo t 0).trans q.symm⟩
  · have f1 : t.2.2.1 = 1 := (tJ_k1 h0.1).mp (ky_2 q)
    have q1 : bhG x.1 = 1 := (bhG_01 x.1).resolve_left q
    have u1 := uJ_rd hn hl h0 (Or.inl f1)
    have e1 : hbT (f, n, mnL n 300) t = ((tmT (f, n, mnL n 300) (rdT (f, n, mnL n 300) t)).1, (tmT (f, n, mnL n 300) (rdT (f, n, mnL n 300) t)).2, (if (tmT (f, n, mnL n 300) (rdT (f, n, mnL n 300) t)).1 = 0 then 0 else 1)) := if_pos (by rw [w13]; exact q)
    have e2 : hbG (f, n, 300) x = rmG (f, n, 300) (gtG (f, n, 300) x) := if_neg q
    rw [e2]
    rcases tm_e hn hl u1 with ⟨d1, d2, d3⟩ | ⟨d1, d2, d3, -, -⟩
    · have e3 : hrT (f, n, mnL n 300) t A B C = ((-1), (tmT (f, n, mnL n 300) (rdT (f, n, mnL n 300) t)).2, (0, 0, A, B, C)) := by
        simp only [hrT]; rw [e1]; exact if_pos d1
      rw [e3, if_pos d2]
      exact ⟨Or.inl ⟨rfl, rfl, d3⟩, fun z => absurd rfl z⟩
    · have e3 : hrT (f, n, mnL n 300) t A B C = hrE (f, n, mnL n 300) (hsR (f, n, mnL n 300) 21 (tmT (f, n, mnL n 300) (rdT (f, n, mnL n 300) t)).2 (0, 1, A, B, C)) := by
        simp only [hrT]; rw [e1]
        dsimp only
        rw [if_neg d1, if_neg d1]
      rw [e3, if_neg (by rw [d2]; decide)]
      exact ⟨key _ _ 1 d3, fun _ => (bo _ 1).trans q1.symm⟩
