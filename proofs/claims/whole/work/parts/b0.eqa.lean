/-! both sides: the air. Bounds -/
theorem ti_add {x y : Int32} {a b c d : Int} (h1 : a ≤ x.toInt) (h2 : x.toInt ≤ b) (h3 : c ≤ y.toInt) (h4 : y.toInt ≤ d) (h5 : -2147483648 ≤ a + c) (h6 : b + d ≤ 2147483647) : (x + y).toInt = x.toInt + y.toInt := by
  rw [Int32.toInt_add, Int.bmod_eq_of_le (by omega) (by omega)]
theorem ti_sub {x y : Int32} {a b c d : Int} (h1 : a ≤ x.toInt) (h2 : x.toInt ≤ b) (h3 : c ≤ y.toInt) (h4 : y.toInt ≤ d) (h5 : -2147483648 ≤ a - d) (h6 : b - c ≤ 2147483647) : (x - y).toInt = x.toInt - y.toInt := by
  rw [Int32.toInt_sub, Int.bmod_eq_of_le (by omega) (by omega)]
theorem ti_mul {x y : Int32} (h1 : -2147483648 ≤ x.toInt * y.toInt) (h2 : x.toInt * y.toInt ≤ 2147483647) : (x * y).toInt = x.toInt * y.toInt := by
  rw [Int32.toInt_mul, Int.bmod_eq_of_le (by omega) (by omega)]
theorem ti_in {x lo hi : Int32} (h : lo ≤ x ∧ x ≤ hi) : lo.toInt ≤ x.toInt ∧ x.toInt ≤ hi.toInt := ⟨le_toInt.mp h.1, le_toInt.mp h.2⟩
/-- a share of a difference -/
theorem td_share {d x : Int} (h1 : 0 ≤ d → 0 ≤ x ∧ x ≤ 100 * d) (h2 : d ≤ 0 → 100 * d ≤ x ∧ x ≤ 0) : (0 ≤ d → 0 ≤ x.tdiv 400 ∧ 4 * x.tdiv 400 ≤ d) ∧ (d ≤ 0 → x.tdiv 400 ≤ 0 ∧ d ≤ 4 * x.tdiv 400) := by
  constructor
  · intro hd
    obtain ⟨a, b⟩ := h1 hd
    rw [Int.tdiv_eq_ediv_of_nonneg a]
    omega
  · intro hd
    obtain ⟨a, b⟩ := h2 hd
    have e : x.tdiv 400 = -((-x) / 400) := by
      have := Int.neg_tdiv (a := -x) (b := 400)
      rw [Int.neg_neg] at this
      rw [this, Int.tdiv_eq_ediv_of_nonneg (by omega)]
    rw [e]
    omega
theorem fl_b {a b h : Int32} (ha : 0 ≤ a ∧ a ≤ 900) (hb : 0 ≤ b ∧ b ≤ 900) (hh : 0 ≤ h ∧ h ≤ 100) : ∃ f : Int, ((a - b) * h / 400).toInt = f ∧ -b.toInt ≤ 4 * f ∧ 4 * f ≤ a.toInt ∧ 4 * f ≤ 900 - b.toInt ∧ -(900 - a.toInt) ≤ 4 * f := by
  have k0 : (0 : Int32).toInt = 0 := rfl
  have k9 : (900 : Int32).toInt = 900 := rfl
  have k1 : (100 : Int32).toInt = 100 := rfl
  have k4 : (400 : Int32).toInt = 400 := rfl
  obtain ⟨a1, a2⟩ := ti_in ha
  obtain ⟨b1, b2⟩ := ti_in hb
  obtain ⟨c1, c2⟩ := ti_in hh
  rw [k0] at a1 b1 c1
  rw [k9] at a2 b2
  rw [k1] at c2
  have e1 := ti_sub (x := a) (y := b) a1 a2 b1 b2 (by omega) (by omega)
  have m1 : 0 ≤ a.toInt - b.toInt → 0 ≤ (a.toInt - b.toInt) * h.toInt ∧ (a.toInt - b.toInt) * h.toInt ≤ 100 * (a.toInt - b.toInt) := fun q => ⟨Int.mul_nonneg q c1, by
    have := Int.mul_le_mul_of_nonneg_left c2 q
    rw [Int.mul_comm 100]; exact this⟩
  have m2 : a.toInt - b.toInt ≤ 0 → 100 * (a.toInt - b.toInt) ≤ (a.toInt - b.toInt) * h.toInt ∧ (a.toInt - b.toInt) * h.toInt ≤ 0 := fun q => by
    have n : 0 ≤ b.toInt - a.toInt := by omega
    have n1 := Int.mul_nonneg n c1
    have n2 := Int.mul_le_mul_of_nonneg_left c2 n
    have n3 : (a.toInt - b.toInt) * h.toInt = -((b.toInt - a.toInt) * h.toInt) := by rw [← Int.neg_mul, Int.neg_sub]
    rw [n3]
    omega
  have e2 : ((a - b) * h).toInt = (a.toInt - b.toInt) * h.toInt := by
    rw [← e1]
    apply ti_mul
    · rw [e1]
      rcases Int.le_total 0 (a.toInt - b.toInt) with q | q
      · have := m1 q; omega
      · have := m2 q; omega
    · rw [e1]
      rcases Int.le_total 0 (a.toInt - b.toInt) with q | q
      · have := m1 q; omega
      · have := m2 q; omega
  have e3 : ((a - b) * h / 400).toInt = ((a.toInt - b.toInt) * h.toInt).tdiv 400 := by
    rw [Int32.toInt_div_of_ne_right _ _ (by decide), e2, k4]
  obtain ⟨s1, s2⟩ := td_share m1 m2
  refine ⟨_, e3, ?_⟩
  rcases Int.le_total 0 (a.toInt - b.toInt) with q | q
  · have := s1 q; omega
  · have := s2 q; omega
theorem lk_b {p l : Int32} (hp : 0 ≤ p ∧ p ≤ 900) (hl : 0 ≤ l ∧ l ≤ 99) : 0 ≤ p - p * l / 1000 ∧ p - p * l / 1000 ≤ 900 := by
  have k0 : (0 : Int32).toInt = 0 := rfl
  have k9 : (900 : Int32).toInt = 900 := rfl
  have k1 : (99 : Int32).toInt = 99 := rfl
  have k4 : (1000 : Int32).toInt = 1000 := rfl
  obtain ⟨a1, a2⟩ := ti_in hp
  obtain ⟨c1, c2⟩ := ti_in hl
  rw [k0] at a1 c1
  rw [k9] at a2
  rw [k1] at c2
  have n1 := Int.mul_nonneg a1 c1
  have n2 := Int.mul_le_mul_of_nonneg_left c2 a1
  have e2 := ti_mul (x := p) (y := l) (by omega) (by omega)
  have e3 : (p * l / 1000).toInt = (p.toInt * l.toInt) / 1000 := by
    rw [Int32.toInt_div_of_ne_right _ _ (by decide), e2, k4, Int.tdiv_eq_ediv_of_nonneg n1]
  have e4 := ti_sub (x := p) (y := p * l / 1000) a1 a2 (c := 0) (d := 900) (by rw [e3]; omega) (by rw [e3]; omega) (by omega) (by omega)
  rw [le_toInt, le_toInt, e4, e3, k0, k9]
  omega
theorem half_b {d : Int32} (h : 0 ≤ d) : 0 ≤ d / 2 ∧ d / 2 ≤ d := by
  have k0 : (0 : Int32).toInt = 0 := rfl
  have k2 : (2 : Int32).toInt = 2 := rfl
  rw [le_toInt, k0] at h
  have e3 : (d / 2).toInt = d.toInt / 2 := by
    rw [Int32.toInt_div_of_ne_right _ _ (by decide), k2, Int.tdiv_eq_ediv_of_nonneg h]
  rw [le_toInt, le_toInt, e3, k0]
  omega
theorem kd_3 {k : Int32} (h : 0 ≤ k ∧ k ≤ 2) : k = 0 ∨ k = 1 ∨ k = 2 := by grind
theorem sn_e {k : Int32} (h : 0 ≤ k ∧ k ≤ 2) : sens k = snG k ∧ ratF k = raG k ∧ easF k = eaG k := by
  rcases kd_3 h with rfl | rfl | rfl <;> exact ⟨rfl, rfl, rfl⟩
theorem mn_c (a b : Int32) : (if a < b then a else b) = (if b < a then b else a) := by grind
theorem vlv_e {kind stuck keep p t c : Int32} (hk : 0 ≤ kind ∧ kind ≤ 2) (hp : 0 ≤ p ∧ p ≤ 900) : (vlv kind stuck keep p t c).2 = vlvG kind stuck keep p t c := by
  obtain ⟨e1, e2, e3⟩ := sn_e hk
  have s0 : 0 < snG kind := by rcases kd_3 hk with rfl | rfl | rfl <;> decide
  have s1 : snG kind < 100 := by rcases kd_3 hk with rfl | rfl | rfl <;> decide
  have m : (if 0 < p - 8 then p - 8 else 0) = (if 8 < p then p - 8 else 0) := by grind
  simp only [vlv, vlvG, e1, e2, e3, m]
  rw [mn_c (-(p - t)) (raG kind)]
  generalize snG kind = sn at s0 s1
  by_cases q : p - t < -sn
  · have q2 : ¬ sn < p - t := by grind
    by_cases z : stuck = 2
    · rw [if_neg (fun h => h.2 z), if_neg q2, if_pos q, if_pos z]
    · rw [if_pos ⟨q, z⟩, if_pos q, if_neg z]
  · rw [if_neg (fun h => q h.1), if_neg q]
    by_cases q2 : sn < p - t
    · rw [if_pos q2, if_pos q2]
    · rw [if_neg q2, if_neg q2]
/-- a valve that doesn't move changes nothing -/
theorem vlv_0 {kind stuck keep p t c : Int32} (h : (vlv kind stuck keep p t c).1 = 0) : (vlv kind stuck keep p t c).2 = (p, t, c) := by
  revert h
  simp only [vlv]
  split
  · exact fun q => absurd q (show ¬ (1 : Int32) = 0 by decide)
  · split
    · exact fun q => absurd q (show ¬ (1 : Int32) = 0 by decide)
    · exact fun _ => rfl
theorem vlvG_b {kind stuck keep p t c : Int32} (hk : 0 ≤ kind ∧ kind ≤ 2) (hp : 0 ≤ p ∧ p ≤ 900) (ht : 0 ≤ t ∧ t ≤ 900) (hc : 0 ≤ c ∧ c ≤ 500) (hq : 0 ≤ keep ∧ keep ≤ 3) :
    (0 ≤ (vlvG kind stuck keep p t c).1 ∧ (vlvG kind stuck keep p t c).1 ≤ 900) ∧ (0 ≤ (vlvG kind stuck keep p t c).2.1 ∧ (vlvG kind stuck keep p t c).2.1 ≤ 900) ∧ (0 ≤ (vlvG kind stuck keep p t c).2.2 ∧ (vlvG kind stuck keep p t c).2.2 ≤ 500) := by
  have s0 : 0 < snG kind ∧ snG kind < 100 := by rcases kd_3 hk with rfl | rfl | rfl <;> decide
  have r0 : 0 < raG kind ∧ raG kind < 100 := by rcases kd_3 hk with rfl | rfl | rfl <;> decide
  have a0 : 0 < eaG kind ∧ eaG kind < 100 := by rcases kd_3 hk with rfl | rfl | rfl <;> decide
  simp only [vlvG]
  generalize snG kind = sn at s0
  generalize raG kind = ra at r0
  generalize eaG kind = ea at a0
  split
  · split
    · exact ⟨hp, ht, hc⟩
    · have r1 : 0 ≤ -(p - t) ∧ -(p - t) ≤ t := by constructor <;> grind
      generalize -(p - t) = r at r1 ⊢
      have hv : 0 ≤ (if ra < r then ra else r) ∧ (if ra < r then ra else r) ≤ t := by
        by_cases q : ra < r
        · rw [if_pos q]; constructor <;> grind
        · rw [if_neg q]; exact r1
      generalize (if ra < r then ra else r) = v9 at hv ⊢
      refine ⟨?_, ?_, ?_⟩
      · dsimp only; split
        · split
          · constructor <;> grind
          · exact ⟨by decide, by decide⟩
        · exact hp
      · dsimp only; constructor <;> grind
      · dsimp only
        split
        · constructor <;> grind
        · exact ⟨by decide, by decide⟩
  · split
    · rename_i q
      have hd : 0 ≤ p - t := by grind
      have hh := half_b hd
      generalize (p - t) / 2 = h2 at hh
      refine ⟨?_, ?_, ?_⟩
      · dsimp only; split
        · constructor <;> grind
        · constructor <;> grind
      · dsimp only; split
        · constructor <;> grind
        · constructor <;> grind
      · dsimp only
        have f0 : 0 ≤ 100 * keep ∧ 100 * keep ≤ 300 := by constructor <;> grind
        generalize 100 * keep = fl at f0
        split
        · split
          · constructor <;> grind
          · constructor <;> grind
        · exact hc
    · exact ⟨hp, ht, hc⟩
/-- what a train may be -/
def RB (R : RK) : Prop := (1 ≤ R.1 ∧ R.1 ≤ 16) ∧ (0 ≤ R.2.1 ∧ R.2.1 ≤ 900) ∧ (0 ≤ R.2.2.1 ∧ R.2.2.1 ≤ 99) ∧ ∀ k, 1 ≤ k → k < (R.1 + 1).toNatClampNeg → (0 ≤ R.2.2.2.1 k ∧ R.2.2.2.1 k ≤ 2) ∧ (0 ≤ R.2.2.2.2.2.1 k ∧ R.2.2.2.2.2.1 k ≤ 3) ∧ (0 ≤ R.2.2.2.2.2.2.1 k ∧ R.2.2.2.2.2.2.1 k ≤ 99) ∧ (0 ≤ R.2.2.2.2.2.2.2.1 k ∧ R.2.2.2.2.2.2.2.1 k ≤ 100)
def pB (n : Nat) (p : Row) : Prop := ∀ k, k < n → 0 ≤ p k ∧ p k ≤ 900
def PB (n : Nat) (x : PTC) : Prop := pB n x.1 ∧ pB n x.2.1 ∧ ∀ k, k < n → 0 ≤ x.2.2 k ∧ x.2.2 k ≤ 500
theorem pB_upd {n : Nat} {p : Row} (h : pB n p) {i : Nat} {x : Int32} (hx : 0 ≤ x ∧ x ≤ 900) : pB n (upd p i x) := by
  intro k hk
  by_cases q : k = i
  · subst q; rw [upd_s]; exact hx
  · rw [upd_n _ _ q]; exact h k hk
theorem workG_b {n : Nat} {full feed : Int32} {p : Row} {act am c : Int32} (hf : 0 ≤ full ∧ full ≤ 900) (he : 0 ≤ feed ∧ feed ≤ 99) (ha : act = 2 → 0 ≤ am ∧ am ≤ 99) (hc : c.toNatClampNeg < n) (h : pB n p) : pB n (workG full feed p act am c) := by
  have hp := h _ hc
  simp only [workG]
  generalize p c.toNatClampNeg = v at hp
  split
  · refine pB_upd h ?_
    split
    · constructor <;> grind
    · exact hf
  · split
    · rename_i q
      have := ha q
      refine pB_upd h ?_
      split
      · constructor <;> grind
      · exact ⟨by decide, by decide⟩
    · split
      · exact pB_upd h ⟨by decide, by decide⟩
      · exact h
theorem work_e {n : Nat} {full feed : Int32} {p : Row} {act am c : Int32} (ha : act = 2 → 0 ≤ am ∧ am ≤ 99) (hc : c.toNatClampNeg < n) (hc2 : 0 ≤ c ∧ c ≤ 16) (h : pB n p) : workF full feed p act am c = workG full feed p act am c := by
  have hp := h _ hc
  simp only [workF, workG]
  rw [if_neg (by grind)]
  by_cases q : act = 2
  · have a := ha q
    have m : (if 0 < p c.toNatClampNeg - am then p c.toNatClampNeg - am else 0) = (if am < p c.toNatClampNeg then p c.toNatClampNeg - am else 0) := by
      generalize p c.toNatClampNeg = v at hp
      grind
    rw [m]
  · rw [if_neg q, if_neg q]
theorem fw_b {n : Nat} {p f : Row} (h : pB n p) (hf : ∀ k, 1 ≤ k → k < n → -(p k).toInt ≤ 4 * (f k).toInt ∧ 4 * (f k).toInt ≤ (p (k - 1)).toInt ∧ 4 * (f k).toInt ≤ 900 - (p k).toInt ∧ -(900 - (p (k - 1)).toInt) ≤ 4 * (f k).toInt) : pB n (fwR p f n) := by
  have k0 : (0 : Int32).toInt = 0 := rfl
  have k9 : (900 : Int32).toInt = 900 := rfl
  intro k hk
  have hp := ti_in (h k hk)
  rw [k0, k9] at hp
  simp only [fwR]
  by_cases q : k + 1 < n
  · rw [if_pos q]
    have g := hf (k + 1) (by omega) q
    rw [Nat.add_sub_cancel] at g
    by_cases q1 : 1 ≤ k
    · rw [if_pos q1]
      have g1 := hf k q1 hk
      have e1 := ti_add (x := p k) (y := f k) hp.1 hp.2 (c := -900) (d := 900) (by omega) (by omega) (by omega) (by omega)
      have e2 := ti_sub (x := p k + f k) (y := f (k + 1)) (a := -900) (b := 1800) (by omega) (by omega) (c := -900) (d := 900) (by omega) (by omega) (by omega) (by omega)
      rw [le_toInt, le_toInt, e2, e1, k0, k9]
      omega
    · rw [if_neg q1]
      have e2 := ti_sub (x := p k) (y := f (k + 1)) hp.1 hp.2 (c := -900) (d := 900) (by omega) (by omega) (by omega) (by omega)
      rw [le_toInt, le_toInt, e2, k0, k9]
      omega
  · rw [if_neg q]
    by_cases q1 : 1 ≤ k ∧ k < n
    · rw [if_pos q1]
      have g1 := hf k q1.1 hk
      have e1 := ti_add (x := p k) (y := f k) hp.1 hp.2 (c := -900) (d := 900) (by omega) (by omega) (by omega) (by omega)
      rw [le_toInt, le_toInt, e1, k0, k9]
      omega
    · rw [if_neg q1]; exact h k hk
theorem flow_b {n br : Int32} {ho p : Row} (hh : ∀ k, 1 ≤ k → k < (n + 1).toNatClampNeg → 0 ≤ ho k ∧ ho k ≤ 100) (h : pB (n + 1).toNatClampNeg p) : pB (n + 1).toNatClampNeg (flowF n ho p br) := by
  have k0 : (0 : Int32).toInt = 0 := rfl
  have k9 : (900 : Int32).toInt = 900 := rfl
  have a : pB (n + 1).toNatClampNeg (fwR p (flR p ho br) (n + 1).toNatClampNeg) := by
    refine fw_b h (fun k h1 h2 => ?_)
    have pa := h (k - 1) (by omega)
    have pb := h k h2
    simp only [flR]
    by_cases q : nI k - 1 = br
    · rw [if_pos q, k0]
      have ia := ti_in pa
      have ib := ti_in pb
      rw [k0, k9] at ia ib
      omega
    · rw [if_neg q]
      obtain ⟨f, e, f1, f2, f3, f4⟩ := fl_b pa pb (hh k h1 h2)
      rw [e]
      exact ⟨f1, f2, f3, f4⟩
  simp only [flowF]
  split
  · exact pB_upd (pB_upd a ⟨by decide, by decide⟩) ⟨by decide, by decide⟩
  · exact a
theorem n1_b {n : Int32} (h1 : 1 ≤ n) (h2 : n ≤ 16) : (n + 1).toNatClampNeg = n.toNatClampNeg + 1 ∧ n.toNatClampNeg ≤ 16 ∧ 1 ≤ n.toNatClampNeg := by
  have e := cl_succ (c := n) (by grind) (by grind)
  have e2 : n.toNatClampNeg ≤ 16 := (cl_le (by grind) (show (0 : Int32) ≤ 16 by decide)).mpr h2
  exact ⟨e, e2, cl_pos h1⟩
theorem idQ_b {R : RK} (hR : RB R) {bo act am br : Int32} (ha : act = 2 → 0 ≤ am ∧ am ≤ 99) {p : Row} (h : pB (R.1 + 1).toNatClampNeg p) : pB (R.1 + 1).toNatClampNeg (idQ R bo act am br p) := by
  obtain ⟨⟨n1, n2⟩, hf, he, hr⟩ := hR
  obtain ⟨e1, e2, e3⟩ := n1_b n1 n2
  have z0 : (0 : Int32).toNatClampNeg = 0 := rfl
  have a := workG_b (n := (R.1 + 1).toNatClampNeg) (c := 0) hf he ha (by omega) h
  have b := workG_b (n := (R.1 + 1).toNatClampNeg) (c := R.1) hf he ha (by omega) a
  simp only [idQ]
  refine flow_b (fun k h1 h2 => (hr k h1 h2).2.2.2) ?_
  split
  · exact b
  · exact a
theorem lkp_b {R : RK} (hR : RB R) {q : Row} (h : pB (R.1 + 1).toNatClampNeg q) : pB (R.1 + 1).toNatClampNeg (cpR q (lkG q R.2.2.2.2.2.2.1) (R.1 + 1).toNatClampNeg) := by
  intro k hk
  simp only [cpR]
  by_cases z : 1 ≤ k ∧ k < (R.1 + 1).toNatClampNeg
  · rw [if_pos z]; simp only [lkG]; exact lk_b (h k hk) (hR.2.2.2 k z.1 z.2).2.2.1
  · rw [if_neg z]; exact h k hk
theorem idT_b {R : RK} (hR : RB R) {bo act am br : Int32} (ha : act = 2 → 0 ≤ am ∧ am ≤ 99) {x : PTC} (h : PB (R.1 + 1).toNatClampNeg x) : PB (R.1 + 1).toNatClampNeg (idT R bo act am br x) := by
  obtain ⟨hp, ht, hc⟩ := h
  have q := lkp_b hR (idQ_b hR (bo := bo) (br := br) ha hp)
  simp only [idT]
  generalize cpR (idQ R bo act am br x.1) (lkG (idQ R bo act am br x.1) R.2.2.2.2.2.2.1) (R.1 + 1).toNatClampNeg = q9 at q
  have v : ∀ k, 1 ≤ k → k < (R.1 + 1).toNatClampNeg → (0 ≤ (vvG R q9 x.2.1 x.2.2 k).1 ∧ (vvG R q9 x.2.1 x.2.2 k).1 ≤ 900) ∧ (0 ≤ (vvG R q9 x.2.1 x.2.2 k).2.1 ∧ (vvG R q9 x.2.1 x.2.2 k).2.1 ≤ 900) ∧ (0 ≤ (vvG R q9 x.2.1 x.2.2 k).2.2 ∧ (vvG R q9 x.2.1 x.2.2 k).2.2 ≤ 500) := by
    intro k h1 h2
    obtain ⟨g1, g2, g3, g4⟩ := hR.2.2.2 k h1 h2
    simp only [vvG]
    split
    · exact vlvG_b g1 (q k h2) (ht k h2) (hc k h2) g2
    · exact ⟨q k h2, ht k h2, hc k h2⟩
  refine ⟨?_, ?_, ?_⟩
  · intro k hk
    simp only [idV, cpR]
    by_cases z : 1 ≤ k ∧ k < (R.1 + 1).toNatClampNeg
    · rw [if_pos z]; exact (v k z.1 z.2).1
    · rw [if_neg z]; exact q k hk
  · intro k hk
    simp only [idV, cpR]
    by_cases z : 1 ≤ k ∧ k < (R.1 + 1).toNatClampNeg
    · rw [if_pos z]; exact (v k z.1 z.2).2.1
    · rw [if_neg z]; exact ht k hk
  · intro k hk
    simp only [idV, cpR]
    by_cases z : 1 ≤ k ∧ k < (R.1 + 1).toNatClampNeg
    · rw [if_pos z]; exact (v k z.1 z.2).2.2
    · rw [if_neg z]; exact hc k hk
/-- a tick behind the handle's step: both sides do the same -/
theorem tail_id {R : RK} (hR : RB R) {bo act am br : Int32} (ha : act = 2 → 0 ≤ am ∧ am ≤ 99) {p b t c : Row} (h : PB (R.1 + 1).toNatClampNeg (p, t, c)) :
    ((tailF R bo act am br p b t c).1, (tailF R bo act am br p b t c).2.2.1, (tailF R bo act am br p b t c).2.2.2.1) = idT R bo act am br (p, t, c) := by
  obtain ⟨hp, ht, hc⟩ := h
  have hR2 := hR
  obtain ⟨⟨n1, n2⟩, hf, he, hr⟩ := hR2
  obtain ⟨e1, e2, e3⟩ := n1_b n1 n2
  have z0 : (0 : Int32).toNatClampNeg = 0 := rfl
  have w0 := work_e (n := (R.1 + 1).toNatClampNeg) (full := R.2.1) (feed := R.2.2.1) (act := act) (am := am) (c := 0) ha (by omega) ⟨by decide, by decide⟩ hp
  have a := workG_b (n := (R.1 + 1).toNatClampNeg) (c := 0) hf he ha (by omega) hp
  have w1 := work_e (n := (R.1 + 1).toNatClampNeg) (full := R.2.1) (feed := R.2.2.1) (act := act) (am := am) (c := R.1) ha (by omega) ⟨by grind, n2⟩ a
  have hq := idQ_b hR (bo := bo) (br := br) ha hp
  have eq : flowF R.1 R.2.2.2.2.2.2.2.1 (if bo ≠ 0 then workF R.2.1 R.2.2.1 (workF R.2.1 R.2.2.1 p act am 0) act am R.1 else workF R.2.1 R.2.2.1 p act am 0) br = idQ R bo act am br p := by
    simp only [idQ]; rw [w0, w1]
  simp only [tailF, idT, idV]
  rw [eq]
  generalize idQ R bo act am br p = q9 at hq ⊢
  have hq2 := lkp_b hR hq
  have v : ∀ k, 1 ≤ k → k < (R.1 + 1).toNatClampNeg → (cellF R q9 t c k).2 = vvG R (cpR q9 (lkG q9 R.2.2.2.2.2.2.1) (R.1 + 1).toNatClampNeg) t c k := by
    intro k h1 h2
    have ek : cpR q9 (lkG q9 R.2.2.2.2.2.2.1) (R.1 + 1).toNatClampNeg k = q9 k - q9 k * R.2.2.2.2.2.2.1 k / 1000 := by simp only [cpR]; rw [if_pos ⟨h1, h2⟩]; rfl
    simp only [cellF, vvG, ek]
    split
    · exact vlv_e (hr k h1 h2).1 (lk_b (hq k h2) (hr k h1 h2).2.2.1)
    · rfl
  refine Prod.ext ?_ (Prod.ext ?_ ?_)
  · funext k
    simp only [cpR]
    by_cases z : 1 ≤ k ∧ k < (R.1 + 1).toNatClampNeg
    · rw [if_pos z, if_pos z]; simp only [gP]; rw [v k z.1 z.2]
    · rw [if_neg z, if_neg z, if_neg z]
  · funext k
    simp only [cpR]
    by_cases z : 1 ≤ k ∧ k < (R.1 + 1).toNatClampNeg
    · rw [if_pos z, if_pos z]; simp only [gT]; rw [v k z.1 z.2]
    · rw [if_neg z, if_neg z]
  · funext k
    simp only [cpR]
    by_cases z : 1 ≤ k ∧ k < (R.1 + 1).toNatClampNeg
    · rw [if_pos z, if_pos z]; simp only [gC]; rw [v k z.1 z.2]
    · rw [if_neg z, if_neg z]
theorem sameR_1 {p b : Row} : ∀ {n : Nat}, sameR p b n = 1 → agn n p b := by
  intro n
  induction n with
  | zero => intro _ k hk; omega
  | succ n ih =>
    intro h k hk
    simp only [sameR] at h
    by_cases q : sameR p b n = 1 ∧ p n = b n
    · by_cases z : k = n
      · subst z; exact q.2
      · exact ih q.1 k (by omega)
    · rw [if_neg q] at h; exact absurd h (by decide)
theorem mvR_0 {m : Row} : ∀ {n : Nat}, mvR m n = 0 → ∀ k, 1 ≤ k → k < n → m k = 0 := by
  intro n
  induction n with
  | zero => intro _ k _ hk; omega
  | succ n ih =>
    intro h k h1 hk
    simp only [mvR] at h
    by_cases q : 1 ≤ n ∧ m n ≠ 0
    · rw [if_pos q] at h; exact absurd h (by decide)
    · rw [if_neg q] at h
      by_cases z : k = n
      · subst z; exact Decidable.not_not.mp (fun y => q ⟨h1, y⟩)
      · exact ih h k h1 (by omega)
theorem PA.rf {n : Nat} (x : PTC) : PA n x x := ⟨fun _ _ => rfl, fun _ _ => rfl, fun _ _ => rfl⟩
theorem PA.sm {n : Nat} {x y : PTC} (h : PA n x y) : PA n y x := ⟨fun k hk => (h.1 k hk).symm, fun k hk => (h.2.1 k hk).symm, fun k hk => (h.2.2 k hk).symm⟩
theorem PA.tr {n : Nat} {x y z : PTC} (h : PA n x y) (g : PA n y z) : PA n x z := ⟨fun k hk => (h.1 k hk).trans (g.1 k hk), fun k hk => (h.2.1 k hk).trans (g.2.1 k hk), fun k hk => (h.2.2 k hk).trans (g.2.2 k hk)⟩
theorem PB_pa {n : Nat} {x y : PTC} (h : PA n x y) (g : PB n x) : PB n y := ⟨fun k hk => by rw [← h.1 k hk]; exact g.1 k hk, fun k hk => by rw [← h.2.1 k hk]; exact g.2.1 k hk, fun k hk => by rw [← h.2.2 k hk]; exact g.2.2 k hk⟩
/-- a still tick has changed nothing -/
theorem tail_st {R : RK} (h1 : 1 ≤ R.1) (h2 : R.1 ≤ 16) {bo act am br : Int32} {p b t c : Row} (h : ¬ (tailF R bo act am br p b t c).2.2.2.2 = 0) :
    PA (R.1 + 1).toNatClampNeg ((tailF R bo act am br p b t c).1, (tailF R bo act am br p b t c).2.2.1, (tailF R bo act am br p b t c).2.2.2.1) (p, t, c) := by
  obtain ⟨e1, e2, e3⟩ := n1_b h1 h2
  revert h
  simp only [tailF]
  generalize flowF R.1 R.2.2.2.2.2.2.2.1 (if bo ≠ 0 then workF R.2.1 R.2.2.1 (workF R.2.1 R.2.2.1 p act am 0) act am R.1 else workF R.2.1 R.2.2.1 p act am 0) br = q
  intro h
  by_cases z : mvR (gM R q t c) (R.1 + 1).toNatClampNeg = 0 ∧ sameR (cpR q (gP R q t c) (R.1 + 1).toNatClampNeg) (va_cpy p b 0 0 17) (R.1 + 1).toNatClampNeg = 1
  · have m := mvR_0 z.1
    have s := sameR_1 z.2
    have v : ∀ k, 1 ≤ k → k < (R.1 + 1).toNatClampNeg → (cellF R q t c k).2.2 = (t k, c k) := by
      intro k a b
      have g := m k a b
      simp only [gM] at g
      revert g
      simp only [cellF]
      split
      · intro g
        have := vlv_0 g
        rw [this]
      · exact fun _ => rfl
    refine ⟨?_, ?_, ?_⟩
    · intro k hk
      show cpR q (gP R q t c) (R.1 + 1).toNatClampNeg k = p k
      rw [s k hk]
      exact ag_cpy (p := p) (q := p) (b := b) (fun _ _ => rfl) k (by omega)
    · intro k hk
      show cpR t (gT R q t c) (R.1 + 1).toNatClampNeg k = t k
      simp only [cpR]
      by_cases y : 1 ≤ k ∧ k < (R.1 + 1).toNatClampNeg
      · rw [if_pos y]; simp only [gT]; rw [v k y.1 y.2]
      · rw [if_neg y]
    · intro k hk
      show cpR c (gC R q t c) (R.1 + 1).toNatClampNeg k = c k
      simp only [cpR]
      by_cases y : 1 ≤ k ∧ k < (R.1 + 1).toNatClampNeg
      · rw [if_pos y]; simp only [gC]; rw [v k y.1 y.2]
      · rw [if_neg y]
  · rw [if_neg z] at h; exact absurd rfl h
theorem idT_pa {R : RK} (h1 : 1 ≤ R.1) (h2 : R.1 ≤ 16) (bo act am br : Int32) {x y : PTC} (h : PA (R.1 + 1).toNatClampNeg x y) : PA (R.1 + 1).toNatClampNeg (idT R bo act am br x) (idT R bo act am br y) := by
  obtain ⟨a, b, c⟩ := h
  have q := idQ_agn h1 h2 bo act am br a
  have q2 : agn (R.1 + 1).toNatClampNeg (cpR (idQ R bo act am br x.1) (lkG (idQ R bo act am br x.1) R.2.2.2.2.2.2.1) (R.1 + 1).toNatClampNeg) (cpR (idQ R bo act am br y.1) (lkG (idQ R bo act am br y.1) R.2.2.2.2.2.2.1) (R.1 + 1).toNatClampNeg) :=
    cpR_agn q (fun k hk => by simp only [lkG]; rw [q k hk])
  refine ⟨?_, ?_, ?_⟩
  · exact cpR_agn q2 (fun k hk => by rw [vvG_agn R q2 b c hk])
  · exact cpR_agn b (fun k hk => by rw [vvG_agn R q2 b c hk])
  · exact cpR_agn c (fun k hk => by rw [vvG_agn R q2 b c hk])
