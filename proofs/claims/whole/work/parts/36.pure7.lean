/-! only the cars of a train matter -/
def re (n : Int32) (f g : Row) : Prop := ∀ k, 1 ≤ k → k < (n + 1).toNatClampNeg → f k = g k
def RE (R S : RK) : Prop := R.1 = S.1 ∧ R.2.1 = S.2.1 ∧ R.2.2.1 = S.2.2.1 ∧ re R.1 R.2.2.2.1 S.2.2.2.1 ∧ re R.1 R.2.2.2.2.1 S.2.2.2.2.1 ∧ re R.1 R.2.2.2.2.2.1 S.2.2.2.2.2.1 ∧ re R.1 R.2.2.2.2.2.2.1 S.2.2.2.2.2.2.1 ∧ re R.1 R.2.2.2.2.2.2.2.1 S.2.2.2.2.2.2.2.1 ∧ re R.1 R.2.2.2.2.2.2.2.2 S.2.2.2.2.2.2.2.2
theorem fwR_re {p f g : Row} {n : Nat} (h : ∀ k, 1 ≤ k → k < n → f k = g k) : fwR p f n = fwR p g n := by
  funext k
  simp only [fwR]
  by_cases h1 : k + 1 < n
  · rw [if_pos h1, if_pos h1, h (k + 1) (by omega) h1]
    by_cases h2 : 1 ≤ k
    · rw [if_pos h2, if_pos h2, h k h2 (by omega)]
    · rw [if_neg h2, if_neg h2]
  · rw [if_neg h1, if_neg h1]
    by_cases h2 : 1 ≤ k ∧ k < n
    · rw [if_pos h2, if_pos h2, h k h2.1 h2.2]
    · rw [if_neg h2, if_neg h2]
theorem cpR_re {f g g2 : Row} {n : Nat} (h : ∀ k, 1 ≤ k → k < n → g k = g2 k) : cpR f g n = cpR f g2 n := by
  funext k
  simp only [cpR]
  by_cases h2 : 1 ≤ k ∧ k < n
  · rw [if_pos h2, if_pos h2, h k h2.1 h2.2]
  · rw [if_neg h2, if_neg h2]
theorem mvR_re {m m2 : Row} {n : Nat} (h : ∀ k, 1 ≤ k → k < n → m k = m2 k) : mvR m n = mvR m2 n := by
  induction n with
  | zero => rfl
  | succ n ih =>
    simp only [mvR]
    rw [ih (fun k h1 h2 => h k h1 (by omega))]
    by_cases q : 1 ≤ n
    · rw [h n q (by omega)]
    · rw [if_neg (fun z => q z.1), if_neg (fun z => q z.1)]
theorem flowF_re {n : Int32} {ho ho2 : Row} (h : re n ho ho2) (p : Row) (br : Int32) : flowF n ho p br = flowF n ho2 p br := by
  have e : fwR p (flR p ho br) (n + 1).toNatClampNeg = fwR p (flR p ho2 br) (n + 1).toNatClampNeg := fwR_re (fun k h1 h2 => by simp only [flR, h k h1 h2])
  simp only [flowF, e]
theorem tailF_re {R S : RK} (h : RE R S) (both act amt br : Int32) (p b t c : Row) : tailF R both act amt br p b t c = tailF S both act amt br p b t c := by
  obtain ⟨e1, e2, e3, hk, ho, he, hl, hs, hu⟩ := h
  have f : ∀ p2 : Row, flowF S.1 R.2.2.2.2.2.2.2.1 p2 br = flowF S.1 S.2.2.2.2.2.2.2.1 p2 br := fun p2 => flowF_re (by rw [← e1]; exact hs) p2 br
  have ce : ∀ (q : Row) (k : Nat), 1 ≤ k → k < (R.1 + 1).toNatClampNeg → cellF R q t c k = cellF S q t c k := fun q k h1 h2 => by
    simp only [cellF, hk k h1 h2, ho k h1 h2, he k h1 h2, hl k h1 h2, hu k h1 h2]
  simp only [tailF, e2, e3, e1, f]
  rw [e1] at ce
  rw [cpR_re (g := gP R _ t c) (g2 := gP S _ t c) (fun k h1 h2 => by simp only [gP]; rw [ce _ k h1 h2]), cpR_re (g := gT R _ t c) (g2 := gT S _ t c) (fun k h1 h2 => by simp only [gT]; rw [ce _ k h1 h2]), cpR_re (g := gC R _ t c) (g2 := gC S _ t c) (fun k h1 h2 => by simp only [gC]; rw [ce _ k h1 h2]), mvR_re (m := gM R _ t c) (m2 := gM S _ t c) (fun k h1 h2 => by simp only [gM]; rw [ce _ k h1 h2])]
theorem advF_re {R S : RK} (h : RE R S) (L : LV) (s : AS) : advF R L s = advF S L s := by simp only [advF, tailF_re h]
theorem wsum_re {f g : Row} {n : Nat} (h : ∀ k, 1 ≤ k → k < n → f k = g k) : wsum f n = wsum g n := by
  induction n with
  | zero => rfl
  | succ n ih =>
    by_cases q : 1 ≤ n
    · rw [wsum_s f q, wsum_s g q, ih (fun k h1 h2 => h k h1 (by omega)), h n q (by omega)]
    · have : n = 0 := by omega
      subst this; rfl
theorem brkR_re {f g c : Row} {sn : Int32} {n : Nat} (h : ∀ k, 1 ≤ k → k < n → f k = g k) : brkR f c sn n = brkR g c sn n := by
  induction n with
  | zero => rfl
  | succ n ih =>
    by_cases q : 1 ≤ n
    · rw [brkR_s f c sn q, brkR_s g c sn q, ih (fun k h1 h2 => h k h1 (by omega)), h n q (by omega)]
    · have : n = 0 := by omega
      subst this; rfl
theorem rollF_re {R S : RK} (h : RE R S) {wt wt2 : Row} (hw : re R.1 wt wt2) (c : Row) (st : Int32) (d : RS) : rollF R wt c st d = rollF S wt2 c st d := by
  obtain ⟨e1, e2, e3, hk, ho, he, hl, hs, hu⟩ := h
  have a : wsum wt (R.1 + 1).toNatClampNeg = wsum wt2 (S.1 + 1).toNatClampNeg := by rw [← e1]; exact wsum_re hw
  have b : ∀ sn, brkR R.2.2.2.2.1 c sn (R.1 + 1).toNatClampNeg = brkR S.2.2.2.2.1 c sn (S.1 + 1).toNatClampNeg := fun sn => by rw [← e1]; exact brkR_re ho
  simp only [rollF, a, b]
theorem stepX_re {R S : RK} (h : RE R S) {wt wt2 : Row} (hw : re R.1 wt wt2) (L : LV) (x : AS × RS) : stepX R wt L x = stepX S wt2 L x := by
  simp only [stepX, advF_re h, rollF_re h hw]
theorem spanX_re {lim : Int32} {R S : RK} (h : RE R S) {wt wt2 : Row} (hw : re R.1 wt wt2) (L : LV) (n : Nat) : ∀ x : AS × RS, spanX lim R wt L n x = spanX lim S wt2 L n x := by
  induction n with
  | zero => intro x; rfl
  | succ n ih => intro x; simp only [spanX, stepX_re h hw, ih]
theorem runV_re {lim : Int32} {R S : RK} (h : RE R S) {wt wt2 : Row} (hw : re R.1 wt wt2) (L : LV) (g sp sn : Int32) : runV lim R wt L g sp sn = runV lim S wt2 L g sp sn := by
  simp only [runV, spanX_re h hw, h.2.1]
/-- the train with its cars in an order -/
def layK (T : RK) (o : Row) : RK := (T.1, T.2.1, T.2.2.1, layR (fun _ => 0) T.2.2.2.1 o T.1.toNatClampNeg, layR (fun _ => 0) T.2.2.2.2.1 o T.1.toNatClampNeg, layR (fun _ => 0) T.2.2.2.2.2.1 o T.1.toNatClampNeg, layR (fun _ => 0) T.2.2.2.2.2.2.1 o T.1.toNatClampNeg, layR (fun _ => 0) T.2.2.2.2.2.2.2.1 o T.1.toNatClampNeg, layR (fun _ => 0) T.2.2.2.2.2.2.2.2 o T.1.toNatClampNeg)
theorem layR_re {n : Int32} (h : 0 ≤ n) (h2 : n < 100) (f g t o : Row) : re n (layR f t o n.toNatClampNeg) (layR g t o n.toNatClampNeg) := by
  intro k h1 h3
  rw [cl_succ h (by grind)] at h3
  simp only [layR]
  rw [if_pos ⟨h1, h3⟩, if_pos ⟨h1, h3⟩]
/-- the least: fuel, the order at hand, the least so far, its order -/
def lstR (F : Row → Int32 → Int32) (n : Nat) : Nat → Row → Int32 → Row → Int32 × Row
  | 0, _, l, b => (l, b)
  | k + 1, o, l, b => if (nxt o n).2 = 0 then (if F o (if l = (-1) then NOL else l - 1) = (-1) then (l, b) else (F o (if l = (-1) then NOL else l - 1), va_cpy o b 0 0 6)) else lstR F n k (nxt o n).1 (if F o (if l = (-1) then NOL else l - 1) = (-1) then l else F o (if l = (-1) then NOL else l - 1)) (if F o (if l = (-1) then NOL else l - 1) = (-1) then b else va_cpy o b 0 0 6)
/-- the greatest -/
def grtR (F : Row → Int32 → Int32) (n : Nat) : Nat → Row → Int32 → Row → Int32 × Row
  | 0, _, l, b => (l, b)
  | k + 1, o, l, b => if F o NOL = (-1) then ((-1), va_cpy o b 0 0 6) else if (nxt o n).2 = 0 then (if l < F o NOL then (F o NOL, va_cpy o b 0 0 6) else (l, b)) else grtR F n k (nxt o n).1 (if l < F o NOL then F o NOL else l) (if l < F o NOL then va_cpy o b 0 0 6 else b)
/-- places of an order stay numbers 1 to n -/
def pm (n : Int32) (f : Row) : Prop := ∀ k, k < n.toNatClampNeg → 1 ≤ f k ∧ f k ≤ n
theorem pm_swp {n : Int32} {f : Row} (h : pm n f) {i j : Nat} (hi : i < n.toNatClampNeg) (hj : j < n.toNatClampNeg) : pm n (swp f i j) := by
  intro k hk
  simp only [swp]
  by_cases q : k = j
  · subst q; rw [upd_s]; exact h i hi
  · rw [upd_n _ _ q]
    by_cases q2 : k = i
    · subst q2; rw [upd_s]; exact h j hj
    · rw [upd_n _ _ q2]; exact h k hk
theorem pm_rv {n : Int32} (lo : Nat) : ∀ (m i : Nat) (f : Row), 1 ≤ i → pm n f → pm n (rvR lo n.toNatClampNeg m i f) := by
  intro m
  induction m with
  | zero => intro i f _ h; exact h
  | succ m ih =>
    intro i f hi h
    by_cases q : lo + i < n.toNatClampNeg - i
    · rw [rvR_go q]; exact ih _ _ (by omega) (pm_swp h (by omega) (by omega))
    · rw [rvR_stop q]; exact h
theorem pm_nxt {n : Int32} {f : Row} (h1 : 1 ≤ n) (h : pm n f) : pm n (nxt f n.toNatClampNeg).1 := by
  have h0 := cl_pos h1
  simp only [nxt]
  split
  · exact h
  · have a := loR_le f (n.toNatClampNeg - 1)
    have b := hiR_le f (loR f (n.toNatClampNeg - 1) - 1) (n.toNatClampNeg - 1)
    exact pm_rv _ _ _ _ (Nat.le_refl _) (pm_swp h (by omega) (by omega))
theorem pm_ord {n : Int32} (h1 : 0 ≤ n) (h2 : n ≤ 6) (f : Row) : pm n (ordR f 6) := by
  intro k hk
  have e : n.toNatClampNeg ≤ 6 := (cl_le h1 (show (0 : Int32) ≤ 6 by decide)).mpr h2
  simp only [ordR]
  rw [if_pos (by omega)]
  have e2 := nI_cl h1
  constructor
  · exact nI_le (a := 1) (by omega) (by omega)
  · rw [← e2]; exact nI_le (by omega) (by omega)
theorem nxt_01 (f : Row) (n : Nat) : (nxt f n).2 = 0 ∨ (nxt f n).2 = 1 := by
  simp only [nxt]
  split
  · exact Or.inl rfl
  · exact Or.inr rfl
theorem run_lay {lim sz full feed : Int32} {ki wt ou ke le ho sk o f1 f2 f3 f4 f5 f6 f7 : Row} {L : LV} {g sp sn : Int32} (h1 : 0 ≤ sz) (h2 : sz < 100) :
    runV lim (sz, full, feed, layR f1 ki o sz.toNatClampNeg, layR f2 ou o sz.toNatClampNeg, layR f3 ke o sz.toNatClampNeg, layR f4 le o sz.toNatClampNeg, layR f5 ho o sz.toNatClampNeg, layR f6 sk o sz.toNatClampNeg) (layR f7 wt o sz.toNatClampNeg) L g sp sn = runV lim (layK (sz, full, feed, ki, ou, ke, le, ho, sk) o) (layR (fun _ => 0) wt o sz.toNatClampNeg) L g sp sn := by
  have e : RE (sz, full, feed, layR f1 ki o sz.toNatClampNeg, layR f2 ou o sz.toNatClampNeg, layR f3 ke o sz.toNatClampNeg, layR f4 le o sz.toNatClampNeg, layR f5 ho o sz.toNatClampNeg, layR f6 sk o sz.toNatClampNeg) (layK (sz, full, feed, ki, ou, ke, le, ho, sk) o) := by
    have q1 := layR_re h1 h2 f1 (fun _ => 0) ki o
    have q2 := layR_re h1 h2 f2 (fun _ => 0) ou o
    have q3 := layR_re h1 h2 f3 (fun _ => 0) ke o
    have q4 := layR_re h1 h2 f4 (fun _ => 0) le o
    have q5 := layR_re h1 h2 f5 (fun _ => 0) ho o
    have q6 := layR_re h1 h2 f6 (fun _ => 0) sk o
    simp only [RE, layK]
    exact ⟨trivial, trivial, trivial, q1, q2, q3, q4, q5, q6⟩
  have q7 := layR_re h1 h2 f7 (fun _ => 0) wt o
  exact runV_re e q7 L g sp sn
