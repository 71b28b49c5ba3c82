/-! both sides: spans -/
theorem brc_b {c sn : Int32} (hc : 0 ≤ c ∧ c ≤ 500) (hs : 0 ≤ sn ∧ sn ≤ 90) : 0 ≤ (c * (100 - sn) / 100).toInt ∧ (c * (100 - sn) / 100).toInt ≤ 500 := by
  have k0 : (0 : Int32).toInt = 0 := rfl
  have k5 : (500 : Int32).toInt = 500 := rfl
  have k1 : (100 : Int32).toInt = 100 := rfl
  have k9 : (90 : Int32).toInt = 90 := rfl
  obtain ⟨a1, a2⟩ := ti_in hc
  obtain ⟨b1, b2⟩ := ti_in hs
  rw [k0] at a1 b1
  rw [k5] at a2
  rw [k9] at b2
  have e1 := ti_sub (x := 100) (y := sn) (a := 100) (b := 100) (by rw [k1]; omega) (by rw [k1]; omega) b1 b2 (by omega) (by omega)
  rw [k1] at e1
  have n1 := Int.mul_nonneg a1 (show 0 ≤ (100 - sn).toInt by omega)
  have n2 := Int.mul_le_mul_of_nonneg_left (show (100 - sn).toInt ≤ 100 by omega) a1
  have e2 := ti_mul (x := c) (y := 100 - sn) (by omega) (by omega)
  rw [Int32.toInt_div_of_ne_right _ _ (by decide), e2, k1, Int.tdiv_eq_ediv_of_nonneg n1]
  omega
theorem brk_b {out c : Row} {sn : Int32} (hs : 0 ≤ sn ∧ sn ≤ 90) : ∀ n : Nat, n ≤ 17 → (∀ k, k < n → 0 ≤ c k ∧ c k ≤ 500) → 0 ≤ (brkR out c sn n).toInt ∧ (brkR out c sn n).toInt ≤ 500 * n := by
  intro n
  induction n with
  | zero => intro _ _; exact (show 0 ≤ (0 : Int32).toInt ∧ (0 : Int32).toInt ≤ 500 * ((0 : Nat) : Int) by decide)
  | succ n ih =>
    intro hn h
    by_cases q : 1 ≤ n
    · rw [brkR_s _ _ _ q]
      have a := ih (by omega) (fun k hk => h k (by omega))
      have b := brc_b (h n (by omega)) hs
      split
      · rw [ti_add (x := brkR out c sn n) (y := c n * (100 - sn) / 100) a.1 a.2 b.1 b.2 (by omega) (by omega)]
        omega
      · omega
    · have : n = 0 := by omega
      subst this
      exact (show 0 ≤ (0 : Int32).toInt ∧ (0 : Int32).toInt ≤ 500 * ((0 + 1 : Nat) : Int) by decide)
theorem gn_b {w g b : Int32} (hw : 0 < w.toInt ∧ w.toInt ≤ 2000) (hg : (-40) ≤ g ∧ g ≤ 40) (hb : 0 ≤ b.toInt ∧ b.toInt ≤ 8500) : -200000 ≤ (gnG w g b).toInt ∧ (gnG w g b).toInt ≤ 40 := by
  have k0 : (0 : Int32).toInt = 0 := rfl
  have k4 : (40 : Int32).toInt = 40 := rfl
  have k5 : (-40 : Int32).toInt = -40 := rfl
  have k6 : (4 : Int32).toInt = 4 := rfl
  obtain ⟨g1, g2⟩ := ti_in hg
  rw [k5] at g1
  rw [k4] at g2
  have n2 := Int.mul_le_mul_of_nonneg_left g2 (show 0 ≤ w.toInt by omega)
  have n1 := Int.mul_le_mul_of_nonneg_left g1 (show 0 ≤ w.toInt by omega)
  have e1 := ti_mul (x := w) (y := g) (by omega) (by omega)
  have e2 : (4 * b).toInt = 4 * b.toInt := by rw [ti_mul (by rw [k6]; omega) (by rw [k6]; omega), k6]
  have e3 := ti_sub (x := w * g) (y := 4 * b) (a := -80000) (b := 80000) (by omega) (by omega) (c := 0) (d := 34000) (by omega) (by omega) (by omega) (by omega)
  have hne : ¬ w = -1 := fun q => by rw [q] at hw; exact absurd hw.1 (by decide)
  have hX1 : w.toInt * g.toInt - 4 * b.toInt ≤ 40 * w.toInt := by omega
  have hX2 : -200000 ≤ w.toInt * g.toInt - 4 * b.toInt := by omega
  simp only [gnG]
  rw [Int32.toInt_div_of_ne_right _ _ hne, e3, e1, e2]
  generalize w.toInt * g.toInt - 4 * b.toInt = X at hX1 hX2
  rcases Int.le_total 0 X with q | q
  · rw [Int.tdiv_eq_ediv_of_nonneg q]
    have u1 := Int.ediv_le_of_le_mul hw.1 hX1
    have u2 := Int.ediv_nonneg q (show 0 ≤ w.toInt by omega)
    omega
  · have e : X.tdiv w.toInt = -((-X) / w.toInt) := by
      have := Int.neg_tdiv (a := -X) (b := w.toInt)
      rw [Int.neg_neg] at this
      rw [this, Int.tdiv_eq_ediv_of_nonneg (by omega)]
    have u1 := Int.ediv_nonneg (show 0 ≤ -X by omega) (show 0 ≤ w.toInt by omega)
    have u2 := Int.ediv_le_self w.toInt (show 0 ≤ -X by omega)
    rw [e]
    omega
/-- both sides' runs, t ticks done -/
def SJ (R : RK) (wt : Row) (W : Int32) (L M : LV) (df pa pf g sn : Int32) (t : Nat) (x : AS × RS) (y : SX) : Prop :=
  AR R L M df pa pf t x.1 y.2.2.2.2 ∧ (x.2.1 = g ∧ x.2.2.1 = sn ∧ x.2.2.2.2.2.2.1 = nI t ∧ y.1 = nI t) ∧ (x.2.2.2.2.2.1 = y.2.1 ∧ x.2.2.2.2.1 = y.2.2.1 ∧ x.2.2.2.2.2.2.2 = y.2.2.2.1) ∧ (t = 0 ∨ x.2.2.2.1 = gnG W g (brkR R.2.2.2.2.1 y.2.2.2.2.2.2 sn (R.1 + 1).toNatClampNeg)) ∧ (0 ≤ y.2.1.toInt ∧ y.2.1.toInt ≤ 3000 + 40 * t) ∧ (0 ≤ y.2.2.1.toInt ∧ y.2.2.1.toInt ≤ 27000 * t)
def gB (W g sn : Int32) : Prop := (0 < W.toInt ∧ W.toInt ≤ 2000) ∧ ((-40) ≤ g ∧ g ≤ 40) ∧ (0 ≤ sn ∧ sn ≤ 90)
theorem SJ_n {R : RK} {wt : Row} {W : Int32} {L M : LV} {df pa pf g sn : Int32} {t : Nat} {x : AS × RS} {y : SX} (hR : RB R) (hL : LJ L M) (hW : wsum wt (R.1 + 1).toNatClampNeg = W) (hg : gB W g sn) (ht : t < 600) (h : SJ R wt W L M df pa pf g sn t x y) :
    SJ R wt W L M df pa pf g sn (t + 1) (stepX R wt L x) (spS R W M df pa pf g sn y) ∧ y.2.2.1 ≤ (spS R W M df pa pf g sn y).2.2.1 := by
  obtain ⟨s, gr, sw, ga, wy, sp, ti, fa⟩ := x
  obtain ⟨yt, v, yw, ym, z⟩ := y
  obtain ⟨hA, ⟨e1, e2, e3, e4⟩, ⟨e5, e6, e7⟩, hG, hv, hw⟩ := h
  dsimp only at hA e1 e2 e3 e4 e5 e6 e7 hG hv hw
  subst e1; subst e2; subst e3; subst e4; subst e5; subst e6; subst e7
  obtain ⟨n1, n2, n3⟩ := n1_b hR.1.1 hR.1.2
  obtain ⟨hA2, hst⟩ := AR_n hR hL ht hA
  have et : nI t + 1 = nI (t + 1) := nI_1 t
  obtain ⟨hW1, hg1, hs1⟩ := hg
  have hB2 := hA2.2.1
  have bb := brk_b (out := R.2.2.2.2.1) (c := (tkG R M df pa pf (nI (t + 1)) z).2.2) hs1 (R.1 + 1).toNatClampNeg (by omega) hB2.2.2
  have gb := gn_b (w := W) (g := gr) (b := brkR R.2.2.2.2.1 (tkG R M df pa pf (nI (t + 1)) z).2.2 sw (R.1 + 1).toNatClampNeg) hW1 hg1 ⟨bb.1, by omega⟩
  have hWp : 0 < W := by rw [in_toInt]; exact hW1.1
  -- the gain
  have hgain : (if nI t = 0 ∨ (advF R L s).2.2.2.2.2.2.2.2.2 = 0 then gainF (wsum wt (R.1 + 1).toNatClampNeg) gr (brkR R.2.2.2.2.1 (advF R L s).2.2.2.1 sw (R.1 + 1).toNatClampNeg) else ga) = gnG W gr (brkR R.2.2.2.2.1 (tkG R M df pa pf (nI (t + 1)) z).2.2 sw (R.1 + 1).toNatClampNeg) := by
    by_cases q : nI t = 0 ∨ (advF R L s).2.2.2.2.2.2.2.2.2 = 0
    · rw [if_pos q, hW]
      have e : brkR R.2.2.2.2.1 (advF R L s).2.2.2.1 sw (R.1 + 1).toNatClampNeg = brkR R.2.2.2.2.1 (tkG R M df pa pf (nI (t + 1)) z).2.2 sw (R.1 + 1).toNatClampNeg := brkR_cy hA2.1.2.2
      rw [e]
      simp only [gainF, gnG]
      rw [if_pos hWp]
    · rw [if_neg q]
      have q2 : ¬ (advF R L s).2.2.2.2.2.2.2.2.2 = 0 := fun w => q (Or.inr w)
      have q1 : ¬ t = 0 := fun w => q (Or.inl (by rw [w]; rfl))
      rcases hG with w | w
      · exact absurd w q1
      · rw [w]
        have e : brkR R.2.2.2.2.1 (tkG R M df pa pf (nI (t + 1)) z).2.2 sw (R.1 + 1).toNatClampNeg = brkR R.2.2.2.2.1 z.2.2 sw (R.1 + 1).toNatClampNeg := brkR_cy (hst q2).2.2
        rw [e]
  generalize hgn : gnG W gr (brkR R.2.2.2.2.1 (tkG R M df pa pf (nI (t + 1)) z).2.2 sw (R.1 + 1).toNatClampNeg) = gn at hgain gb
  have hvv : (if 0 < sp + gn then sp + gn else 0) = (if 0 ≤ sp + gn then sp + gn else 0) := by
    by_cases q : sp + gn = 0
    · rw [q]; rfl
    · by_cases q2 : 0 < sp + gn
      · rw [if_pos q2, if_pos (by grind)]
      · rw [if_neg q2, if_neg (by grind)]
  have k0 : (0 : Int32).toInt = 0 := rfl
  have es := ti_add (x := sp) (y := gn) hv.1 hv.2 gb.1 gb.2 (by omega) (by omega)
  have hv2 : 0 ≤ (if 0 ≤ sp + gn then sp + gn else 0).toInt ∧ (if 0 ≤ sp + gn then sp + gn else 0).toInt ≤ 3000 + 40 * (t + 1) := by
    by_cases q : 0 ≤ sp + gn
    · rw [if_pos q]
      rw [le_toInt, k0] at q
      omega
    · rw [if_neg q, k0]; omega
  have ew := ti_add (x := wy) (y := (if 0 ≤ sp + gn then sp + gn else 0)) hw.1 hw.2 hv2.1 hv2.2 (by omega) (by omega)
  have eS : stepX R wt L (s, gr, sw, ga, wy, sp, nI t, fa) = (advF R L s, gr, sw, gn, wy + (if 0 ≤ sp + gn then sp + gn else 0), (if 0 ≤ sp + gn then sp + gn else 0), nI (t + 1), if fa < (if 0 ≤ sp + gn then sp + gn else 0) then (if 0 ≤ sp + gn then sp + gn else 0) else fa) := by
    simp only [stepX, rollF]
    rw [hgain, hvv, et]
  have eP : spS R W M df pa pf gr sw (nI t, sp, wy, fa, z) = (nI (t + 1), (if 0 ≤ sp + gn then sp + gn else 0), wy + (if 0 ≤ sp + gn then sp + gn else 0), (if fa < (if 0 ≤ sp + gn then sp + gn else 0) then (if 0 ≤ sp + gn then sp + gn else 0) else fa), tkG R M df pa pf (nI (t + 1)) z) := by
    simp only [spS]
    rw [et, hgn]
  rw [eS, eP]
  refine ⟨⟨hA2, ⟨rfl, rfl, rfl, rfl⟩, ⟨rfl, rfl, rfl⟩, Or.inr hgn.symm, ?_, ?_⟩, ?_⟩
  · dsimp only; exact ⟨hv2.1, by have := hv2.2; omega⟩
  · dsimp only; rw [ew]; omega
  · dsimp only; rw [le_toInt, ew]; omega
theorem SJ_0 {R : RK} {wt : Row} {W : Int32} {L M : LV} {bc bt pa pf g sp sn : Int32} (hR : RB R) (hL : LJ L M) (hb : bJ bc bt pa pf) (hs : 0 ≤ sp ∧ sp ≤ 3000) : SJ R wt W L M 601 pa pf g sn 0 (((st0 R.2.1).1, (st0 R.2.1).2.1, (st0 R.2.1).2.2.1, (st0 R.2.1).2.2.2.1, 0, 0, 0, bc, bt, 0), rd0 g sp sn) (0, sp, 0, sp, c0G R) := by
  have a := ti_in hs
  refine ⟨AR_0 hR hL hb (by decide), ⟨rfl, rfl, rfl, rfl⟩, ⟨rfl, rfl, rfl⟩, Or.inl rfl, ?_, ?_⟩
  · exact a
  · exact (show 0 ≤ (0 : Int32).toInt ∧ (0 : Int32).toInt ≤ 27000 * ((0 : Nat) : Int) by decide)
/-- what a limit leaves of a span -/
def capV (lim v : Int32) : Int32 := if v ≠ (-1) ∧ v ≤ lim then v else (-1)
theorem cap_m (lim : Int32) : capV lim (-1) = (-1) := if_neg (fun w => w.1 rfl)
theorem spV_0 {y : SX} (h : y.2.1 = 0) : spV y = y.2.2.1 := if_pos h
theorem spV_n {y : SX} (h : ¬ y.2.1 = 0) : spV y = (-1) := if_neg h
theorem NOL_le (v : Int32) : v ≤ NOL := by
  rw [le_toInt]
  have := Int32.toInt_lt v
  have k : (NOL : Int32).toInt = 2147483647 := rfl
  rw [k]; omega
theorem wh_b {L M : LV} (h : LJ L M) {df : Int32} {T : Nat} (h1 : 1 ≤ T) (h2 : T ≤ 700) (g : whG M (nI T) df = 2) : 0 ≤ drG M (nI T) ∧ drG M (nI T) ≤ 99 := by
  obtain ⟨e1, ⟨b1, b2⟩, e2, hl, hk⟩ := h
  have n20 := hl.1
  by_cases hd : df ≤ nI T
  · simp only [whG] at g; rw [if_pos hd] at g; exact absurd g (by decide)
  · simp only [whG] at g
    rw [if_neg hd] at g
    by_cases q : M.1 = 0
    · have z : saR M.2.2.2.2 M.1.toNatClampNeg 0 (nI T) = (-1) := by rw [q]; rfl
      rw [z, if_pos rfl] at g; exact absurd g (by decide)
    · have p : 1 ≤ M.1.toNatClampNeg := cl_pos (by grind)
      obtain ⟨i, a1, a2⟩ := sa_0 hl p h1 h2
      have hi := a2.1
      have c3 : ¬ nI i = (-1) := by
        have c0 : 0 ≤ nI i := nI_le (a := 0) (Nat.zero_le _) (by omega)
        grind
      obtain ⟨k1, k2, k3⟩ := hk i hi
      rw [a1, if_neg c3, nI_clamp (by omega)] at g
      simp only [drG]
      rw [a1, if_neg c3, nI_clamp (by omega)]
      exact (k2 (k1.trans g)).2
/-- a run of the reference, t ticks done -/
def YB (R : RK) (t : Nat) (y : SX) : Prop := PB (R.1 + 1).toNatClampNeg y.2.2.2.2 ∧ y.1 = nI t ∧ (0 ≤ y.2.1.toInt ∧ y.2.1.toInt ≤ 3000 + 40 * t) ∧ (0 ≤ y.2.2.1.toInt ∧ y.2.2.1.toInt ≤ 27000 * t)
theorem YB_J {R : RK} {wt : Row} {W : Int32} {L M : LV} {df pa pf g sn : Int32} {t : Nat} {x : AS × RS} {y : SX} (h : SJ R wt W L M df pa pf g sn t x y) : YB R t y := ⟨h.1.2.1, h.2.1.2.2.2, h.2.2.2.2.1, h.2.2.2.2.2⟩
theorem YB_n {R : RK} {W : Int32} {L M : LV} {df pa pf g sn : Int32} {t : Nat} {y : SX} (hR : RB R) (hL : LJ L M) (hg : gB W g sn) (ht : t < 600) (h : YB R t y) : YB R (t + 1) (spS R W M df pa pf g sn y) ∧ y.2.2.1 ≤ (spS R W M df pa pf g sn y).2.2.1 := by
  obtain ⟨yt, v, yw, ym, z⟩ := y
  obtain ⟨hB, e4, hv, hw⟩ := h
  dsimp only at hB e4 hv hw
  subst e4
  obtain ⟨n1, n2, n3⟩ := n1_b hR.1.1 hR.1.2
  have et : nI t + 1 = nI (t + 1) := nI_1 t
  obtain ⟨hW1, hg1, hs1⟩ := hg
  have hB2 : PB (R.1 + 1).toNatClampNeg (tkG R M df pa pf (nI (t + 1)) z) := idT_b hR (fun q => wh_b hL (by omega) (by omega) q) hB
  have bb := brk_b (out := R.2.2.2.2.1) (c := (tkG R M df pa pf (nI (t + 1)) z).2.2) hs1 (R.1 + 1).toNatClampNeg (by omega) hB2.2.2
  have gb := gn_b (w := W) (g := g) (b := brkR R.2.2.2.2.1 (tkG R M df pa pf (nI (t + 1)) z).2.2 sn (R.1 + 1).toNatClampNeg) hW1 hg1 ⟨bb.1, by omega⟩
  generalize hgn : gnG W g (brkR R.2.2.2.2.1 (tkG R M df pa pf (nI (t + 1)) z).2.2 sn (R.1 + 1).toNatClampNeg) = gn at gb
  have k0 : (0 : Int32).toInt = 0 := rfl
  have es := ti_add (x := v) (y := gn) hv.1 hv.2 gb.1 gb.2 (by omega) (by omega)
  have hv2 : 0 ≤ (if 0 ≤ v + gn then v + gn else 0).toInt ∧ (if 0 ≤ v + gn then v + gn else 0).toInt ≤ 3000 + 40 * (t + 1) := by
    by_cases q : 0 ≤ v + gn
    · rw [if_pos q]
      rw [le_toInt, k0] at q
      omega
    · rw [if_neg q, k0]; omega
  have ew := ti_add (x := yw) (y := (if 0 ≤ v + gn then v + gn else 0)) hw.1 hw.2 hv2.1 hv2.2 (by omega) (by omega)
  have eP : spS R W M df pa pf g sn (nI t, v, yw, ym, z) = (nI (t + 1), (if 0 ≤ v + gn then v + gn else 0), yw + (if 0 ≤ v + gn then v + gn else 0), (if ym < (if 0 ≤ v + gn then v + gn else 0) then (if 0 ≤ v + gn then v + gn else 0) else ym), tkG R M df pa pf (nI (t + 1)) z) := by
    simp only [spS]
    rw [et, hgn]
  rw [eP]
  refine ⟨⟨hB2, rfl, ?_, ?_⟩, ?_⟩
  · dsimp only; exact ⟨hv2.1, by have := hv2.2; omega⟩
  · dsimp only; rw [ew]; omega
  · dsimp only; rw [le_toInt, ew]; omega
theorem sp_mono {R : RK} {W : Int32} {L M : LV} {df pa pf g sn : Int32} (hR : RB R) (hL : LJ L M) (hg : gB W g sn) : ∀ (m t : Nat) {y : SX}, t + m ≤ 600 → YB R t y → y.2.2.1 ≤ (spG R W M df pa pf g sn m y).2.2.1 ∧ (0 ≤ (spG R W M df pa pf g sn m y).2.2.1.toInt ∧ (spG R W M df pa pf g sn m y).2.2.1.toInt ≤ 16200000) := by
  intro m
  induction m with
  | zero => intro t y ht h; exact ⟨Int32.le_refl _, h.2.2.2.1, by have := h.2.2.2.2; show y.2.2.1.toInt ≤ _; omega⟩
  | succ m ih =>
    intro t y ht h
    obtain ⟨a, b⟩ := YB_n (W := W) (df := df) (pa := pa) (pf := pf) (g := g) (sn := sn) hR hL hg (by omega) h
    simp only [spG]
    split
    · have c := ih (t + 1) (by omega) a
      exact ⟨Int32.le_trans b c.1, c.2⟩
    · exact ⟨Int32.le_refl _, h.2.2.2.1, by have := h.2.2.2.2; omega⟩
/-- no limit: all is alike at the end -/
theorem span_J {R : RK} {wt : Row} {W : Int32} {L M : LV} {df pa pf g sn : Int32} (hR : RB R) (hL : LJ L M) (hW : wsum wt (R.1 + 1).toNatClampNeg = W) (hg : gB W g sn) : ∀ (m t : Nat) {x : AS × RS} {y : SX}, t + m ≤ 600 → SJ R wt W L M df pa pf g sn t x y → ∃ t2, SJ R wt W L M df pa pf g sn t2 (spanX NOL R wt L m x) (spG R W M df pa pf g sn m y) := by
  intro m
  induction m with
  | zero => intro t x y _ h; exact ⟨t, h⟩
  | succ m ih =>
    intro t x y ht h
    obtain ⟨a, _⟩ := SJ_n hR hL hW hg (by omega) h
    have e5 : x.2.2.2.2.2.1 = y.2.1 := h.2.2.1.1
    have e3 : x.2.2.2.2.2.2.1 = nI t := h.2.1.2.2.1
    have hv := h.2.2.2.2.1
    have k6 : ¬ 600 ≤ nI t := by
      have := (nI_leq (a := 600) (b := t) (by omega) (by omega))
      exact fun q => absurd (this.mp q) (by omega)
    by_cases q : y.2.1 = 0
    · refine ⟨t, ?_⟩
      rw [spanX_stop (Or.inl (e5.trans q))]
      simp only [spG]
      rw [if_neg (by rw [q]; decide)]
      exact h
    · have q2 : 0 < y.2.1 := by
        rw [in_toInt]
        have k0 : (0 : Int32).toInt = 0 := rfl
        have : y.2.1.toInt ≠ 0 := fun w => q (Int32.toInt_inj.mp w)
        rw [k0]; omega
      rw [spanX_go (by rw [e5, e3]; exact fun w => w.elim q (fun w => w.elim k6 (fun w => w (NOL_le _))))]
      simp only [spG]
      rw [if_pos q2]
      exact ih (t + 1) (by omega) a
/-- with a limit -/
theorem span_cap {R : RK} {wt : Row} {W : Int32} {L M : LV} {df pa pf g sn : Int32} (hR : RB R) (hL : LJ L M) (hW : wsum wt (R.1 + 1).toNatClampNeg = W) (hg : gB W g sn) (lim : Int32) : ∀ (m t : Nat) {x : AS × RS} {y : SX}, t + m = 600 → SJ R wt W L M df pa pf g sn t x y → ∀ j, spanV lim (spanX lim R wt L (m + j) x) = capV lim (spV (spG R W M df pa pf g sn m y)) := by
  have fin : ∀ {t : Nat} {x : AS × RS} {y : SX}, SJ R wt W L M df pa pf g sn t x y → spanV lim x = capV lim (spV y) := by
    intro t x y h
    have e5 : x.2.2.2.2.2.1 = y.2.1 := h.2.2.1.1
    have e6 : x.2.2.2.2.1 = y.2.2.1 := h.2.2.1.2.1
    have hw := h.2.2.2.2.2.1
    simp only [spanV]
    rw [e5, e6]
    have hne : ¬ y.2.2.1 = (-1) := fun q => by rw [q] at hw; exact absurd hw (by decide)
    by_cases q : y.2.1 = 0
    · rw [spV_0 q]
      simp only [capV]
      by_cases z : y.2.2.1 ≤ lim
      · rw [if_pos ⟨q, z⟩, if_pos ⟨hne, z⟩]
      · rw [if_neg (fun w => z w.2), if_neg (fun w => z w.2)]
    · rw [spV_n q, cap_m, if_neg (fun w => q w.1)]
  intro m
  induction m with
  | zero =>
    intro t x y ht h j
    have e3 : x.2.2.2.2.2.2.1 = nI t := h.2.1.2.2.1
    have t6 : t = 600 := by omega
    subst t6
    rw [spanX_stop (Or.inr (Or.inl (by rw [e3]; exact Int32.le_refl _)))]
    exact fin h
  | succ m ih =>
    intro t x y ht h j
    obtain ⟨a, _⟩ := SJ_n hR hL hW hg (by omega) h
    have e5 : x.2.2.2.2.2.1 = y.2.1 := h.2.2.1.1
    have e6 : x.2.2.2.2.1 = y.2.2.1 := h.2.2.1.2.1
    have e3 : x.2.2.2.2.2.2.1 = nI t := h.2.1.2.2.1
    have hv := h.2.2.2.2.1
    have k6 : ¬ 600 ≤ nI t := by
      have := (nI_leq (a := 600) (b := t) (by omega) (by omega))
      exact fun q => absurd (this.mp q) (by omega)
    by_cases q : y.2.1 = 0
    · rw [spanX_stop (Or.inl (e5.trans q)), fin h]
      simp only [spG]
      rw [if_neg (by rw [q]; decide)]
    · by_cases z : y.2.2.1 ≤ lim
      · have q2 : 0 < y.2.1 := by
          rw [in_toInt]
          have k0 : (0 : Int32).toInt = 0 := rfl
          have : y.2.1.toInt ≠ 0 := fun w => q (Int32.toInt_inj.mp w)
          rw [k0]; omega
        rw [show m + 1 + j = m + j + 1 by omega, spanX_go (by rw [e5, e3, e6]; exact fun w => w.elim q (fun w => w.elim k6 (fun w => w z)))]
        simp only [spG]
        rw [if_pos q2]
        exact ih (t + 1) (by omega) a j
      · rw [spanX_stop (Or.inr (Or.inr (by rw [e6]; exact z))), fin h]
        have mo := (sp_mono (df := df) (pa := pa) (pf := pf) hR hL hg (m + 1) t (by omega) (YB_J h)).1
        rw [spV_n q, cap_m]
        symm
        simp only [capV]
        rw [if_neg ?_]
        intro w
        simp only [spV] at w
        by_cases u : (spG R W M df pa pf g sn (m + 1) y).2.1 = 0
        · rw [if_pos u] at w
          exact z (Int32.le_trans mo w.2)
        · rw [if_neg u] at w
          exact w.1 rfl
theorem spV_b {R : RK} {wt : Row} {W : Int32} {L M : LV} {bc bt pa pf g sp sn : Int32} (hR : RB R) (hL : LJ L M) (hW : wsum wt (R.1 + 1).toNatClampNeg = W) (hg : gB W g sn) (hb : bJ bc bt pa pf) (hs : 0 ≤ sp ∧ sp ≤ 3000) : spV (spC R W M 601 pa pf g sp sn) = (-1) ∨ (0 ≤ spV (spC R W M 601 pa pf g sp sn) ∧ spV (spC R W M 601 pa pf g sp sn) ≤ 16200000) := by
  have m := (sp_mono (df := 601) (pa := pa) (pf := pf) hR hL hg 600 0 (by omega) (YB_J (SJ_0 (g := g) (sn := sn) (W := W) (wt := wt) hR hL hb hs))).2
  simp only [spV]
  split
  · refine Or.inr ?_
    rw [le_toInt, le_toInt]
    exact m
  · exact Or.inl rfl
theorem run_e {R : RK} {wt : Row} {W : Int32} {L M : LV} {lim g sp sn : Int32} (hR : RB R) (hL : LJ L M) (hW : wsum wt (R.1 + 1).toNatClampNeg = W) (hg : gB W g sn) (hs : 0 ≤ sp ∧ sp ≤ 3000) : runV lim R wt L g sp sn = capV lim (spV (spC R W M 601 0 601 g sp sn)) :=
  span_cap hR hL hW hg lim 600 0 rfl (SJ_0 hR hL bJ_no hs) 0
theorem runP_e {R : RK} {wt : Row} {W : Int32} {L M : LV} {lim k tk g sp sn : Int32} (hR : RB R) (hL : LJ L M) (hW : wsum wt (R.1 + 1).toNatClampNeg = W) (hg : gB W g sn) (hs : 0 ≤ sp ∧ sp ≤ 3000) (hk : 1 ≤ k) : runP lim R wt L k tk g sp sn = capV lim (spV (spC R W M 601 k tk g sp sn)) :=
  span_cap hR hL hW hg lim 600 0 rfl (SJ_0 hR hL (Or.inr ⟨by intro q; rw [q] at hk; exact absurd hk (by decide), rfl, rfl⟩) hs) 0
theorem cap_NOL (v : Int32) : capV NOL v = v := by
  simp only [capV]
  by_cases q : v = (-1)
  · rw [if_neg (fun w => w.1 q), q]
  · rw [if_pos ⟨q, NOL_le v⟩]
theorem ran_e {R : RK} {wt : Row} {W : Int32} {L M : LV} {g sp sn : Int32} (hR : RB R) (hL : LJ L M) (hW : wsum wt (R.1 + 1).toNatClampNeg = W) (hg : gB W g sn) (hs : 0 ≤ sp ∧ sp ≤ 3000) :
    (spanX NOL R wt L 600 (st0 R.2.1, rd0 g sp sn)).2.2.2.2.2.2.1 = (spC R W M 601 0 601 g sp sn).1 ∧ (spanX NOL R wt L 600 (st0 R.2.1, rd0 g sp sn)).2.2.2.2.2.1 = (spC R W M 601 0 601 g sp sn).2.1 ∧ (spanX NOL R wt L 600 (st0 R.2.1, rd0 g sp sn)).2.2.2.2.2.2.2 = (spC R W M 601 0 601 g sp sn).2.2.2.1 := by
  obtain ⟨t2, h⟩ := span_J hR hL hW hg 600 0 (Nat.le_refl _) (SJ_0 (W := W) (wt := wt) (g := g) (sn := sn) hR hL bJ_no hs)
  exact ⟨h.2.1.2.2.1.trans h.2.1.2.2.2.symm, h.2.2.1.1, h.2.2.1.2.2⟩
/-! help -/
theorem tk_df {R : RK} {M : LV} {df df2 pa pf T : Int32} {x : PTC} (h1 : ¬ df ≤ T) (h2 : ¬ df2 ≤ T) : tkG R M df pa pf T x = tkG R M df2 pa pf T x := by
  simp only [tkG, whG]; rw [if_neg h1, if_neg h2]
theorem SJ_dmp {R : RK} {wt : Row} {W : Int32} {L M : LV} {g sn : Int32} {t : Nat} {x : AS × RS} {y : SX} (h : SJ R wt W L M 601 0 601 g sn t x y) : SJ R wt W L M (nI t + 1) 0 601 g sn t (dmp x.1, x.2) y := by
  obtain ⟨⟨a1, a2, a3, a4, a5, a6, a7⟩, h2⟩ := h
  refine ⟨⟨a1, a2, a3, a4, Or.inl ⟨by show ¬ (1 : Int32) = 0; decide, by rw [nI_1]; exact Int32.le_refl _⟩, a6, fun z => absurd rfl z⟩, h2⟩
theorem hp_up {F : Nat → Int32} {m : Int32} {k : Nat} : ∀ j, (∀ i, k ≤ i → i < k + j → ¬ (F i ≠ (-1) ∧ F i ≤ m)) → hpR F m (k + j) = hpR F m k := by
  intro j
  induction j with
  | zero => intro _; rfl
  | succ j ih =>
    intro h
    show hpR F m (k + j + 1) = _
    simp only [hpR]
    rw [if_neg (h (k + j) (by omega) (by omega))]
    exact ih (fun i a b => h i a (by omega))
theorem cap_ne {lim v : Int32} : capV lim v ≠ (-1) ↔ (v ≠ (-1) ∧ v ≤ lim) := by
  simp only [capV]
  by_cases q : v ≠ (-1) ∧ v ≤ lim
  · rw [if_pos q]; exact ⟨fun _ => q, fun _ => q.1⟩
  · rw [if_neg q]; exact ⟨fun w => absurd rfl w, fun w => absurd w q⟩
theorem help_e {R : RK} {wt : Row} {W : Int32} {L M : LV} {lim g sn : Int32} (hR : RB R) (hL : LJ L M) (hW : wsum wt (R.1 + 1).toNatClampNeg = W) (hg : gB W g sn) (F : Nat → Int32) : ∀ (n t : Nat) {la : Int32} {x : AS × RS} {y : SX}, t + n = 401 → SJ R wt W L M 601 0 601 g sn t x y → la = hpR F lim t → (∀ i, t ≤ i → i < 401 → F i = spV (spG R W M (nI i + 1) 0 601 g sn (600 - t) y)) → helpR lim R wt L n (nI t) la x = hpR F lim 401 := by
  intro n
  induction n with
  | zero =>
    intro t la x y ht h hl hF
    have t4 : t = 401 := by omega
    subst t4
    exact hl
  | succ n ih =>
    intro t la x y ht h hl hF
    obtain ⟨a, b⟩ := SJ_n hR hL hW hg (by omega) h
    have e5 : x.2.2.2.2.2.1 = y.2.1 := h.2.2.1.1
    have e6 : x.2.2.2.2.1 = y.2.2.1 := h.2.2.1.2.1
    have hw := h.2.2.2.2.2.1
    have hne : ¬ y.2.2.1 = (-1) := fun q => by rw [q] at hw; exact absurd hw (by decide)
    obtain ⟨k, hk⟩ : ∃ k, 600 - t = k + 1 := ⟨600 - t - 1, by omega⟩
    have hlt : ∀ i, t + 1 ≤ i → i < 401 → ¬ nI i + 1 ≤ nI (t + 1) := by
      intro i h1 h2
      rw [nI_1, nI_leq (by omega) (by omega)]
      omega
    have h601 : ¬ (601 : Int32) ≤ nI (t + 1) := by
      have := nI_leq (a := 601) (b := t + 1) (by omega) (by omega)
      exact fun q => absurd (this.mp q) (by omega)
    simp only [helpR]
    rw [e6, e5]
    by_cases q : y.2.2.1 ≤ lim
    · rw [if_neg (not_not_intro q)]
      by_cases z : y.2.1 = 0
      · rw [if_pos z]
        have f4 : F 400 = y.2.2.1 := by
          rw [hF 400 (by omega) (by omega), hk]
          simp only [spG]
          rw [if_neg (by rw [z]; decide)]
          simp only [spV]
          rw [if_pos z]
        rw [show hpR F lim 401 = if F 400 ≠ (-1) ∧ F 400 ≤ lim then nI 400 else hpR F lim 400 from rfl, f4, if_pos ⟨hne, q⟩]
        rfl
      · rw [if_neg z]
        have q2 : 0 < y.2.1 := by
          rw [in_toInt]
          have hv := h.2.2.2.2.1
          have k0 : (0 : Int32).toInt = 0 := rfl
          have : y.2.1.toInt ≠ 0 := fun w => z (Int32.toInt_inj.mp w)
          rw [k0]; omega
        have hd : dmpV lim R wt L x = capV lim (F t) := by
          rw [hF t (Nat.le_refl _) (by omega)]
          have := span_cap hR hL hW hg lim (600 - t) t (by omega) (SJ_dmp h) t
          rw [show 600 - t + t = 600 by omega] at this
          exact this
        rw [nI_1]
        refine ih (t + 1) (by omega) a ?_ (fun i h1 h2 => ?_)
        · rw [hd, hl]
          simp only [hpR]
          by_cases u : F t ≠ (-1) ∧ F t ≤ lim
          · rw [if_pos u, if_pos (cap_ne.mpr u)]
          · rw [if_neg u, if_neg (fun w => u (cap_ne.mp w))]
        · rw [hF i (by omega) h2, hk]
          simp only [spG]
          rw [if_pos q2, show 600 - (t + 1) = k by omega]
          have e : spS R W M (nI i + 1) 0 601 g sn y = spS R W M 601 0 601 g sn y := by
            have ey : y.1 = nI t := h.2.1.2.2.2
            simp only [spS]
            rw [ey, nI_1 t, tk_df (hlt i h1 h2) h601]
          rw [e]
    · rw [if_pos q, hl]
      rw [show (401 : Nat) = t + (401 - t) by omega]
      refine (hp_up (401 - t) (fun i h1 h2 => ?_)).symm
      intro w
      have hi := hF i h1 (by omega)
      -- the way only grows
      have mo : y.2.2.1 ≤ (spG R W M (nI i + 1) 0 601 g sn (600 - t) y).2.2.1 := (sp_mono (df := nI i + 1) (pa := 0) (pf := 601) hR hL hg (600 - t) t (by omega) (YB_J h)).1
      rw [hi] at w
      simp only [spV] at w
      by_cases u : (spG R W M (nI i + 1) 0 601 g sn (600 - t) y).2.1 = 0
      · rw [if_pos u] at w
        exact q (Int32.le_trans mo w.2)
      · rw [if_neg u] at w
        exact w.1 rfl
