/-! the reference: what doesn't matter -/
def agn (n : Nat) (f g : Row) : Prop := ∀ k, k < n → f k = g k
def PA (n : Nat) (x y : PTC) : Prop := agn n x.1 y.1 ∧ agn n x.2.1 y.2.1 ∧ agn n x.2.2 y.2.2
theorem agn_upd {n : Nat} {f g : Row} (h : agn n f g) (i : Nat) (x : Int32) : agn n (upd f i x) (upd g i x) := by
  intro k hk
  by_cases q : k = i
  · subst q; rw [upd_s, upd_s]
  · rw [upd_n _ _ q, upd_n _ _ q]; exact h k hk
theorem workG_agn {n : Nat} {p q : Row} (h : agn n p q) (full feed act am : Int32) {c : Int32} (hc : c.toNatClampNeg < n) : agn n (workG full feed p act am c) (workG full feed q act am c) := by
  have e := h _ hc
  simp only [workG, e]
  split
  · exact agn_upd h _ _
  · split
    · exact agn_upd h _ _
    · split
      · exact agn_upd h _ _
      · exact h
theorem fwR_agn {n : Nat} {p q f g : Row} (h : agn n p q) (hf : agn n f g) : agn n (fwR p f n) (fwR q g n) := by
  intro k hk
  simp only [fwR]
  rw [h k hk, hf k hk]
  by_cases q : k + 1 < n
  · rw [if_pos q, if_pos q, hf (k + 1) q]
  · rw [if_neg q, if_neg q]
theorem flR_agn {n : Nat} {p q : Row} (h : agn n p q) (ho : Row) (br : Int32) : agn n (flR p ho br) (flR q ho br) := by
  intro k hk
  simp only [flR]
  rw [h k hk, h (k - 1) (by omega)]
theorem flowF_agn {n : Int32} {p q : Row} (h : agn (n + 1).toNatClampNeg p q) (ho : Row) (br : Int32) : agn (n + 1).toNatClampNeg (flowF n ho p br) (flowF n ho q br) := by
  have a := fwR_agn h (flR_agn h ho br)
  simp only [flowF]
  split
  · exact agn_upd (agn_upd a _ _) _ _
  · exact a
theorem cpR_agn {n m : Nat} {f g f2 g2 : Row} (h : agn n f f2) (h2 : agn n g g2) : agn n (cpR f g m) (cpR f2 g2 m) := by
  intro k hk
  simp only [cpR]; rw [h k hk, h2 k hk]
theorem idQ_agn {R : RK} (h1 : 1 ≤ R.1) (h2 : R.1 ≤ 16) (bo act am br : Int32) {p q : Row} (h : agn (R.1 + 1).toNatClampNeg p q) : agn (R.1 + 1).toNatClampNeg (idQ R bo act am br p) (idQ R bo act am br q) := by
  have e := cl_succ (c := R.1) (by grind) (by grind)
  have z0 : (0 : Int32).toNatClampNeg < (R.1 + 1).toNatClampNeg := by rw [e]; exact Nat.succ_pos _
  have z1 : R.1.toNatClampNeg < (R.1 + 1).toNatClampNeg := by omega
  have a := workG_agn h R.2.1 R.2.2.1 act am z0
  simp only [idQ]
  by_cases b : bo ≠ 0
  · rw [if_pos b, if_pos b]; exact flowF_agn (workG_agn a _ _ _ _ z1) _ _
  · rw [if_neg b, if_neg b]; exact flowF_agn a _ _
theorem vvG_agn {n : Nat} (R : RK) {q q2 t t2 c c2 : Row} (h1 : agn n q q2) (h2 : agn n t t2) (h3 : agn n c c2) {k : Nat} (hk : k < n) : vvG R q t c k = vvG R q2 t2 c2 k := by
  simp only [vvG]; rw [h1 k hk, h2 k hk, h3 k hk]
theorem tkG_pa {R : RK} (h1 : 1 ≤ R.1) (h2 : R.1 ≤ 16) (L : LV) (df pa pf t : Int32) {x y : PTC} (h : PA (R.1 + 1).toNatClampNeg x y) : PA (R.1 + 1).toNatClampNeg (tkG R L df pa pf t x) (tkG R L df pa pf t y) := by
  obtain ⟨a, b, c⟩ := h
  have q := idQ_agn h1 h2 L.2.1 (whG L t df) (drG L t) (brG t pa pf) a
  have q2 : agn (R.1 + 1).toNatClampNeg (cpR (idQ R L.2.1 (whG L t df) (drG L t) (brG t pa pf) x.1) (lkG (idQ R L.2.1 (whG L t df) (drG L t) (brG t pa pf) x.1) R.2.2.2.2.2.2.1) (R.1 + 1).toNatClampNeg) (cpR (idQ R L.2.1 (whG L t df) (drG L t) (brG t pa pf) y.1) (lkG (idQ R L.2.1 (whG L t df) (drG L t) (brG t pa pf) y.1) R.2.2.2.2.2.2.1) (R.1 + 1).toNatClampNeg) :=
    cpR_agn q (fun k hk => by simp only [lkG]; rw [q k hk])
  refine ⟨?_, ?_, ?_⟩
  · exact cpR_agn q2 (fun k hk => by rw [vvG_agn R q2 b c hk])
  · exact cpR_agn b (fun k hk => by rw [vvG_agn R q2 b c hk])
  · exact cpR_agn c (fun k hk => by rw [vvG_agn R q2 b c hk])
theorem idQ_re {R S : RK} (h : RE R S) (bo act am br : Int32) (p : Row) : idQ R bo act am br p = idQ S bo act am br p := by
  obtain ⟨e1, e2, e3, hk, ho, he, hl, hs, hu⟩ := h
  simp only [idQ]
  rw [flowF_re hs, e1, e2, e3]
theorem tkG_re {R S : RK} (h : RE R S) (L : LV) (df pa pf t : Int32) (x : PTC) : tkG R L df pa pf t x = tkG S L df pa pf t x := by
  have hq := idQ_re h L.2.1 (whG L t df) (drG L t) (brG t pa pf) x.1
  obtain ⟨e1, e2, e3, hk, ho, he, hl, hs, hu⟩ := h
  have q2 : cpR (idQ R L.2.1 (whG L t df) (drG L t) (brG t pa pf) x.1) (lkG (idQ R L.2.1 (whG L t df) (drG L t) (brG t pa pf) x.1) R.2.2.2.2.2.2.1) (R.1 + 1).toNatClampNeg = cpR (idQ S L.2.1 (whG L t df) (drG L t) (brG t pa pf) x.1) (lkG (idQ S L.2.1 (whG L t df) (drG L t) (brG t pa pf) x.1) S.2.2.2.2.2.2.1) (S.1 + 1).toNatClampNeg := by
    rw [hq, ← e1]
    refine cpR_re (fun k a b => ?_)
    simp only [lkG]; rw [hl k a b]
  have q3 : ∀ (q t c : Row) (k : Nat), 1 ≤ k → k < (R.1 + 1).toNatClampNeg → vvG R q t c k = vvG S q t c k := by
    intro q t c k a b
    simp only [vvG]; rw [hk k a b, ho k a b, he k a b, hu k a b]
  simp only [tkG, idT]
  rw [q2]
  simp only [idV]
  rw [← e1]
  refine Prod.ext ?_ (Prod.ext ?_ ?_)
  · exact cpR_re (fun k a b => by rw [q3 _ _ _ k a b])
  · exact cpR_re (fun k a b => by rw [q3 _ _ _ k a b])
  · exact cpR_re (fun k a b => by rw [q3 _ _ _ k a b])
def c0G (R : RK) : PTC := (fun _ => R.2.1, fun _ => R.2.1, fun _ => 0)
theorem bgG_pa (R : RK) (p t c : Row) : PA (R.1 + 1).toNatClampNeg (bgG R p t c) (c0G R) := by
  refine ⟨?_, ?_, ?_⟩ <;> (intro k hk; simp only [bgG, c0G, fillR]; rw [if_pos hk])
theorem brkR_cy {out c c2 : Row} {sn : Int32} : ∀ {n : Nat}, agn n c c2 → brkR out c sn n = brkR out c2 sn n := by
  intro n
  induction n with
  | zero => intro _; rfl
  | succ n ih =>
    intro h
    by_cases q : 1 ≤ n
    · rw [brkR_s _ _ _ q, brkR_s _ _ _ q, ih (fun k hk => h k (by omega)), h n (by omega)]
    · have : n = 0 := by omega
      subst this; rfl
def SA (n : Nat) (x y : SX) : Prop := x.1 = y.1 ∧ x.2.1 = y.2.1 ∧ x.2.2.1 = y.2.2.1 ∧ x.2.2.2.1 = y.2.2.2.1 ∧ PA n x.2.2.2.2 y.2.2.2.2
theorem spS_sa {R : RK} (h1 : 1 ≤ R.1) (h2 : R.1 ≤ 16) (wt : Int32) (L : LV) (df pa pf g sn : Int32) {x y : SX} (h : SA (R.1 + 1).toNatClampNeg x y) : SA (R.1 + 1).toNatClampNeg (spS R wt L df pa pf g sn x) (spS R wt L df pa pf g sn y) := by
  obtain ⟨a, b, c, d, e⟩ := h
  have q := tkG_pa h1 h2 L df pa pf (y.1 + 1) e
  have q2 : brkR R.2.2.2.2.1 (tkG R L df pa pf (y.1 + 1) x.2.2.2.2).2.2 sn (R.1 + 1).toNatClampNeg = brkR R.2.2.2.2.1 (tkG R L df pa pf (y.1 + 1) y.2.2.2.2).2.2 sn (R.1 + 1).toNatClampNeg := brkR_cy (fun k hk => q.2.2 k hk)
  simp only [spS, SA]
  rw [a, b, c, d, q2]
  exact ⟨rfl, rfl, rfl, rfl, q⟩
theorem spG_sa {R : RK} (h1 : 1 ≤ R.1) (h2 : R.1 ≤ 16) (wt : Int32) (L : LV) (df pa pf g sn : Int32) : ∀ (m : Nat) {x y : SX}, SA (R.1 + 1).toNatClampNeg x y → SA (R.1 + 1).toNatClampNeg (spG R wt L df pa pf g sn m x) (spG R wt L df pa pf g sn m y) := by
  intro m
  induction m with
  | zero => intro x y h; exact h
  | succ m ih =>
    intro x y h
    simp only [spG]
    rw [h.2.1]
    split
    · exact ih (spS_sa h1 h2 wt L df pa pf g sn h)
    · exact h
def spC (R : RK) (wt : Int32) (L : LV) (df pa pf g sp sn : Int32) : SX := spG R wt L df pa pf g sn 600 (0, sp, 0, sp, c0G R)
theorem spC_e {R : RK} (h1 : 1 ≤ R.1) (h2 : R.1 ≤ 16) (wt : Int32) (L : LV) (df pa pf g sp sn : Int32) (p t c : Row) : SA (R.1 + 1).toNatClampNeg (spG R wt L df pa pf g sn 600 (sp0 R sp p t c)) (spC R wt L df pa pf g sp sn) :=
  spG_sa h1 h2 wt L df pa pf g sn 600 ⟨rfl, rfl, rfl, rfl, bgG_pa R p t c⟩
theorem spV_sa {n : Nat} {x y : SX} (h : SA n x y) : spV x = spV y := by simp only [spV]; rw [h.2.1, h.2.2.1]
theorem spS_re {R S : RK} (h : RE R S) (wt : Int32) (L : LV) (df pa pf g sn : Int32) (x : SX) : spS R wt L df pa pf g sn x = spS S wt L df pa pf g sn x := by
  have q := tkG_re h L df pa pf (x.1 + 1) x.2.2.2.2
  have q2 : ∀ cy, brkR R.2.2.2.2.1 cy sn (R.1 + 1).toNatClampNeg = brkR S.2.2.2.2.1 cy sn (S.1 + 1).toNatClampNeg := fun cy => by rw [← h.1]; exact brkR_re h.2.2.2.2.1
  simp only [spS]; rw [q, q2]
theorem spC_re {R S : RK} (h : RE R S) (wt : Int32) (L : LV) (df pa pf g sp sn : Int32) : spC R wt L df pa pf g sp sn = spC S wt L df pa pf g sp sn := by
  have e : ∀ (m : Nat) (x : SX), spG R wt L df pa pf g sn m x = spG S wt L df pa pf g sn m x := by
    intro m
    induction m with
    | zero => intro x; rfl
    | succ m ih => intro x; simp only [spG, spS_re h, ih]
  simp only [spC, e, c0G, h.2.1]
/-- rows taken in an order, without what lies behind them -/
def rkT (cars full fed : Int32) (t7 o : Row) : RK := (cars, full, fed, tkR (fun _ => 0) t7 0 o cars.toNatClampNeg, tkR (fun _ => 0) t7 64 o cars.toNatClampNeg, tkR (fun _ => 0) t7 96 o cars.toNatClampNeg, tkR (fun _ => 0) t7 128 o cars.toNatClampNeg, tkR (fun _ => 0) t7 160 o cars.toNatClampNeg, tkR (fun _ => 0) t7 192 o cars.toNatClampNeg)
theorem tkR_re {n : Int32} (h : 0 ≤ n) (h2 : n < 100) (f g t o : Row) (off : Nat) : re n (tkR f t off o n.toNatClampNeg) (tkR g t off o n.toNatClampNeg) := by
  intro k h1 h3
  rw [cl_succ h (by grind)] at h3
  simp only [tkR]
  rw [if_pos ⟨h1, h3⟩, if_pos ⟨h1, h3⟩]
theorem rkT_re {n full fed : Int32} (h : 1 ≤ n) (h2 : n ≤ 16) (a b c d e f t o : Row) : RE (n, full, fed, tkR a t 0 o n.toNatClampNeg, tkR b t 64 o n.toNatClampNeg, tkR c t 96 o n.toNatClampNeg, tkR d t 128 o n.toNatClampNeg, tkR e t 160 o n.toNatClampNeg, tkR f t 192 o n.toNatClampNeg) (rkT n full fed t o) := by
  have k1 : 0 ≤ n := by grind
  have k2 : n < 100 := by grind
  simp only [RE, rkT]
  exact ⟨trivial, trivial, trivial, tkR_re k1 k2 _ _ _ _ _, tkR_re k1 k2 _ _ _ _ _, tkR_re k1 k2 _ _ _ _ _, tkR_re k1 k2 _ _ _ _ _, tkR_re k1 k2 _ _ _ _ _, tkR_re k1 k2 _ _ _ _ _⟩
theorem spT {n full fed : Int32} (h : 1 ≤ n) (h2 : n ≤ 16) (a b c d e f t7 o p t y : Row) (wt : Int32) (L : LV) (df pa pf g sp sn : Int32) :
    SA (n + 1).toNatClampNeg (spG (n, full, fed, tkR a t7 0 o n.toNatClampNeg, tkR b t7 64 o n.toNatClampNeg, tkR c t7 96 o n.toNatClampNeg, tkR d t7 128 o n.toNatClampNeg, tkR e t7 160 o n.toNatClampNeg, tkR f t7 192 o n.toNatClampNeg) wt L df pa pf g sn 600 (sp0 (n, full, fed, tkR a t7 0 o n.toNatClampNeg, tkR b t7 64 o n.toNatClampNeg, tkR c t7 96 o n.toNatClampNeg, tkR d t7 128 o n.toNatClampNeg, tkR e t7 160 o n.toNatClampNeg, tkR f t7 192 o n.toNatClampNeg) sp p t y)) (spC (rkT n full fed t7 o) wt L df pa pf g sp sn) := by
  rw [← spC_re (rkT_re h h2 a b c d e f t7 o)]
  exact spC_e h h2 wt L df pa pf g sp sn p t y
