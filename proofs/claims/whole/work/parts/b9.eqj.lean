/-! both sides: tokens -/
theorem sk_min {f : Row} : ∀ (a b p : Nat), a ≤ b → skR f a p = min (skR f b p) (p + a) := by
  intro a
  induction a with
  | zero => intro b p _; have := (skR_le f b p).1; show p = _; omega
  | succ a ih =>
    intro b p h
    obtain ⟨b, rfl⟩ : ∃ k, b = k + 1 := ⟨b - 1, by omega⟩
    simp only [skR]
    split
    · rw [ih b (p + 1) (by omega)]; omega
    · omega
/-- digits of 27, none 0 -/
def vN (d : Nat → Nat) : Nat → Nat
  | 0 => 0
  | k + 1 => 27 * vN d k + d k
theorem vN_inj {d e : Nat → Nat} : ∀ (m n : Nat), (∀ k, k < m → 1 ≤ d k ∧ d k ≤ 26) → (∀ k, k < n → 1 ≤ e k ∧ e k ≤ 26) → vN d m = vN e n → m = n ∧ ∀ k, k < m → d k = e k := by
  intro m
  induction m with
  | zero =>
    intro n _ he h
    cases n with
    | zero => exact ⟨rfl, fun k hk => by omega⟩
    | succ n => simp only [vN] at h; have := he n (by omega); omega
  | succ m ih =>
    intro n hd he h
    cases n with
    | zero => simp only [vN] at h; have := hd m (by omega); omega
    | succ n =>
      simp only [vN] at h
      have a := hd m (by omega)
      have b := he n (by omega)
      have e1 : vN d m = vN e n := by omega
      have e2 : d m = e n := by omega
      obtain ⟨c1, c2⟩ := ih n (fun k hk => hd k (by omega)) (fun k hk => he k (by omega)) e1
      subst c1
      refine ⟨rfl, fun k hk => ?_⟩
      by_cases q : k = m
      · subst q; exact e2
      · exact c2 k (by omega)
theorem vN_cg {d e : Nat → Nat} : ∀ m, (∀ k, k < m → d k = e k) → vN d m = vN e m := by
  intro m
  induction m with
  | zero => intro _; rfl
  | succ m ih => intro h; simp only [vN]; rw [ih (fun k hk => h k (by omega)), h m (by omega)]
theorem vN_b {d : Nat → Nat} : ∀ m, (∀ k, k < m → d k ≤ 26) → vN d m < 27 ^ m := by
  intro m
  induction m with
  | zero => intro _; show 0 < 27 ^ 0; omega
  | succ m ih =>
    intro h
    have a := ih (fun k hk => h k (by omega))
    have b := h m (by omega)
    simp only [vN]
    rw [Nat.pow_succ]
    omega
def isL (c : Int32) : Prop := 97 ≤ c ∧ c ≤ 122
def isD (c : Int32) : Prop := 48 ≤ c ∧ c ≤ 57
theorem isL_D {c : Int32} (h : isL c) : ¬ isD c := by intro z; have h1 := h.1; have h2 := z.2; grind
/-- letters from a on as digits of 27 -/
def lD (f : Row) (a : Nat) : Nat → Nat := fun k => (f (a + k)).toNatClampNeg - 96
theorem lD_b {f : Row} {a k : Nat} (h : isL (f (a + k))) : 1 ≤ lD f a k ∧ lD f a k ≤ 26 ∧ (f (a + k)).toNatClampNeg = lD f a k + 96 := by
  have h1 : 97 ≤ (f (a + k)).toNatClampNeg := (cl_le (x := 97) (by decide) (by have := h.1; grind)).mpr h.1
  have h2 : (f (a + k)).toNatClampNeg ≤ 122 := (cl_le (y := 122) (by have := h.1; grind) (by decide)).mpr h.2
  simp only [lD]; omega
abbrev nJ (n : Nat) : Int64 := Int64.ofNat n
theorem nJ_inj {a b : Nat} (ha : a < 2 ^ 31) (hb : b < 2 ^ 31) (h : nJ a = nJ b) : a = b := by
  have := congrArg (fun v : Int64 => v.toBitVec.toNat) h
  have e : ∀ n : Nat, n < 2 ^ 31 → (nJ n).toBitVec.toNat = n := by
    intro n hn
    show (BitVec.ofNat 64 n).toNat = n
    rw [BitVec.toNat_ofNat, Nat.mod_eq_of_lt (by omega)]
  simp only [e a ha, e b hb] at this
  exact this
theorem wo_s {w c : Nat} (hw : w < 14348907) (hc : c < 1000) (h96 : 96 ≤ c) : 27 * nJ w + (nI c).toInt64 - 96 = nJ (27 * w + (c - 96)) := by
  have ec : (nI c).toInt64 = nJ c := by
    apply Int64.toInt_inj.mp
    rw [Int32.toInt_toInt64, nI_toInt (by omega)]
    exact (Int64.toInt_ofNat_of_lt (by omega)).symm
  rw [ec]
  apply Int64.toBitVec_inj.mp
  apply BitVec.eq_of_toNat_eq
  show ((27#64 * BitVec.ofNat 64 w + BitVec.ofNat 64 c) - 96#64).toNat = (BitVec.ofNat 64 (27 * w + (c - 96))).toNat
  simp only [BitVec.toNat_sub, BitVec.toNat_add, BitVec.toNat_mul, BitVec.toNat_ofNat]
  omega
/-- only letters, or only digits -/
def gd (le : Int32) (L D : Nat) : Int32 := if le = 1 then (if D = 0 then 1 else 0) else (if L = 0 then 1 else 0)
theorem gd_0 {le : Int32} (h : le = 0 ∨ le = 1) : gd le 0 0 = 1 := by rcases h with rfl | rfl <;> rfl
theorem gd_L {le : Int32} (h : le = 0 ∨ le = 1) (L D : Nat) : (if gd le L D ≠ 0 ∧ (1 : Int32) = le then (1 : Int32) else 0) = gd le (L + 1) D := by
  rcases h with rfl | rfl
  · rw [if_neg (fun y => absurd y.2 (by decide))]
    exact ((if_neg (by decide)).trans (if_neg (by omega))).symm
  · show (if (if D = 0 then (1 : Int32) else 0) ≠ 0 ∧ (1 : Int32) = 1 then (1 : Int32) else 0) = (if D = 0 then (1 : Int32) else 0)
    by_cases y : D = 0
    · rw [if_pos y]; rfl
    · rw [if_neg y]; rfl
theorem gd_D {le : Int32} (h : le = 0 ∨ le = 1) (L D : Nat) : (if gd le L D ≠ 0 ∧ (0 : Int32) = le then (1 : Int32) else 0) = gd le L (D + 1) := by
  rcases h with rfl | rfl
  · show (if (if L = 0 then (1 : Int32) else 0) ≠ 0 ∧ (0 : Int32) = 0 then (1 : Int32) else 0) = (if L = 0 then (1 : Int32) else 0)
    by_cases y : L = 0
    · rw [if_pos y]; rfl
    · rw [if_neg y]; rfl
  · rw [if_neg (fun y => absurd y.2 (by decide))]
    exact ((if_pos rfl).trans (if_neg (by omega))).symm
/-- signs: where they end, letters, digits -/
theorem sg_wg {f : Row} {a : Nat} {le : Int32} (hle : le = 0 ∨ le = 1) : ∀ (n p : Nat) (l d v : Int32) (good nu : Int32) (wo : Int64) (L D : Nat), a ≤ p → L + D = p - a → p + n < 1000 → l = nI L → d = nI D → good = gd le L D → (L = 0 → p - a ≤ 3 → v = nu) → (D = 0 → p - a ≤ 5 → wo = nJ (vN (lD f a) (p - a)) ∧ ∀ k, k < p - a → isL (f (a + k))) →
    ∃ (L2 D2 : Nat), (sgR f n p l d v).1 = (wgo f a le n p good nu wo).1 ∧ (sgR f n p l d v).2.1 = nI L2 ∧ (sgR f n p l d v).2.2.1 = nI D2 ∧ L2 + D2 = (wgo f a le n p good nu wo).1 - a ∧ (wgo f a le n p good nu wo).2.1 = gd le L2 D2 ∧ (L2 = 0 → L2 + D2 ≤ 3 → (sgR f n p l d v).2.2.2 = (wgo f a le n p good nu wo).2.2.1) ∧ (D2 = 0 → L2 + D2 ≤ 5 → (wgo f a le n p good nu wo).2.2.2 = nJ (vN (lD f a) (L2 + D2)) ∧ ∀ k, k < L2 + D2 → isL (f (a + k))) ∧ (L ≤ L2 ∧ D ≤ D2) ∧ (1 ≤ n → isL (f p) → L < L2) := by
  intro n
  induction n with
  | zero =>
    intro p l d v good nu wo L D ha hLD hp el ed eg hv hw
    refine ⟨L, D, rfl, el, ed, hLD, eg, fun h1 h2 => hv h1 (by omega), fun h1 h2 => ?_, ⟨Nat.le_refl _, Nat.le_refl _⟩, fun h => absurd h (by omega)⟩
    have := hw h1 (by omega)
    rw [hLD]; exact this
  | succ n ih =>
    intro p l d v good nu wo L D ha hLD hp el ed eg hv hw
    by_cases qL : 97 ≤ f p ∧ f p ≤ 122
    · have qD : ¬ (48 ≤ f p ∧ f p ≤ 57) := isL_D qL
      have e1 : sgR f (n + 1) p l d v = sgR f n (p + 1) (l + 1) d v := by simp only [sgR]; rw [if_pos qL]
      have e2 : wgo f a le (n + 1) p good nu wo = wgo f a le n (p + 1) (if good ≠ 0 ∧ (1 : Int32) = le then 1 else 0) (if p - a < 3 then 10 * nu + f p - 48 else nu) (if p - a < 5 then 27 * wo + (f p).toInt64 - 96 else wo) := by
        simp only [wgo]; rw [if_pos (Or.inl qL), if_pos qL]
      rw [e1, e2]
      have s1 : (if good ≠ 0 ∧ (1 : Int32) = le then (1 : Int32) else 0) = gd le (L + 1) D := by rw [eg]; exact gd_L hle L D
      have s2 : D = 0 → p + 1 - a ≤ 5 → (if p - a < 5 then 27 * wo + (f p).toInt64 - 96 else wo) = nJ (vN (lD f a) (p + 1 - a)) ∧ ∀ k, k < p + 1 - a → isL (f (a + k)) := by
        intro h1 h2
        obtain ⟨w1, w2⟩ := hw h1 (by omega)
        have eap : a + (p - a) = p := by omega
        have hL : ∀ k, k < p + 1 - a → isL (f (a + k)) := by
          intro k hk
          by_cases y : k = p - a
          · subst y; rw [eap]; exact qL
          · exact w2 k (by omega)
        refine ⟨?_, hL⟩
        rw [if_pos (by omega), w1]
        have b := vN_b (d := lD f a) (p - a) (fun k hk => (lD_b (w2 k hk)).2.1)
        have b2 : 27 ^ (p - a) ≤ 27 ^ 4 := Nat.pow_le_pow_right (by omega) (by omega)
        have k4 : (27 : Nat) ^ 4 = 531441 := rfl
        obtain ⟨c1, c2, c3⟩ := lD_b (f := f) (a := a) (k := p - a) (by rw [eap]; exact qL)
        rw [eap] at c3
        have efp : f p = nI (lD f a (p - a) + 96) := by rw [← c3, nI_cl (by have := qL.1; grind)]
        rw [efp, wo_s (by omega) (by omega) (by omega), show p + 1 - a = p - a + 1 by omega]
        simp only [vN]
        rw [Nat.add_sub_cancel]
      obtain ⟨L2, D2, r⟩ := ih (p + 1) (l + 1) d v (if good ≠ 0 ∧ (1 : Int32) = le then 1 else 0) (if p - a < 3 then 10 * nu + f p - 48 else nu) (if p - a < 5 then 27 * wo + (f p).toInt64 - 96 else wo) (L + 1) D (by omega) (by omega) (by omega) (by rw [el, nI_1]) ed s1 (fun h => by omega) s2
      exact ⟨L2, D2, r.1, r.2.1, r.2.2.1, r.2.2.2.1, r.2.2.2.2.1, r.2.2.2.2.2.1, r.2.2.2.2.2.2.1, by have := r.2.2.2.2.2.2.2.1; omega, fun _ _ => by have := r.2.2.2.2.2.2.2.1; omega⟩
    · by_cases qD : 48 ≤ f p ∧ f p ≤ 57
      · have e1 : sgR f (n + 1) p l d v = sgR f n (p + 1) l (d + 1) (v * 10 + f p - 48) := by simp only [sgR]; rw [if_neg qL, if_pos qD]
        have e2 : wgo f a le (n + 1) p good nu wo = wgo f a le n (p + 1) (if good ≠ 0 ∧ (0 : Int32) = le then 1 else 0) (if p - a < 3 then 10 * nu + f p - 48 else nu) (if p - a < 5 then 27 * wo + (f p).toInt64 - 96 else wo) := by
          simp only [wgo]; rw [if_pos (Or.inr qD), if_neg qL]
        rw [e1, e2]
        have s1 : (if good ≠ 0 ∧ (0 : Int32) = le then (1 : Int32) else 0) = gd le L (D + 1) := by rw [eg]; exact gd_D hle L D
        have s2 : L = 0 → p + 1 - a ≤ 3 → v * 10 + f p - 48 = (if p - a < 3 then 10 * nu + f p - 48 else nu) := by
          intro h1 h2
          rw [if_pos (by omega), hv h1 (by omega)]
          grind
        obtain ⟨L2, D2, r⟩ := ih (p + 1) l (d + 1) (v * 10 + f p - 48) (if good ≠ 0 ∧ (0 : Int32) = le then 1 else 0) (if p - a < 3 then 10 * nu + f p - 48 else nu) (if p - a < 5 then 27 * wo + (f p).toInt64 - 96 else wo) L (D + 1) (by omega) (by omega) (by omega) el (by rw [ed, nI_1]) s1 s2 (fun h => by omega)
        exact ⟨L2, D2, r.1, r.2.1, r.2.2.1, r.2.2.2.1, r.2.2.2.2.1, r.2.2.2.2.2.1, r.2.2.2.2.2.2.1, by have := r.2.2.2.2.2.2.2.1; omega, fun _ h => absurd h qL⟩
      · have e1 : sgR f (n + 1) p l d v = (p, l, d, v) := by simp only [sgR]; rw [if_neg qL, if_neg qD]
        have e2 : wgo f a le (n + 1) p good nu wo = (p, good, nu, wo) := by simp only [wgo]; rw [if_neg (fun z => z.elim qL qD)]
        rw [e1, e2]
        refine ⟨L, D, rfl, el, ed, hLD, eg, fun h1 h2 => hv h1 (by omega), fun h1 h2 => ?_, ⟨Nat.le_refl _, Nat.le_refl _⟩, fun _ h => absurd h qL⟩
        have := hw h1 (by omega)
        rw [hLD]; exact this
/-- the tokens at hand, both sides: the class's bytes, how many, its limit; the reference's limit -/
def tJ (f : Row) (n l : Int32) (t : TS) (s : GS) : Prop := t.1 = s.2.1 ∧
  ((t.2.2.1 = 0 ∧ (if l < n then s.2.2.1 = 1 else s.2.2.1 = 0)) ∨
   (t.2.2.1 = 1 ∧ s.2.2.1 = 2 ∧ t.2.1 = s.1 ∧ ∃ q m : Nat, t.1 = nI q ∧ t.2.1 = nI (q + m) ∧ 1 ≤ m ∧ m ≤ 5 ∧ q + m ≤ n.toNatClampNeg ∧ s.2.2.2.2 = nJ (vN (lD f q) m) ∧ ∀ k, k < m → isL (f (q + k))) ∨
   (t.2.2.1 = 2 ∧ s.2.2.1 = 3 ∧ t.2.1 = s.1 ∧ t.2.2.2.1 = s.2.2.2.1) ∨
   (t.2.2.1 = 3 ∧ s.2.2.1 = 4 ∧ t.2.1 = s.1) ∨
   (t.2.2.1 = 4 ∧ s.2.2.1 = 1))
abbrev mnL (n l : Int32) : Int32 := if n < l then n else l
theorem rd_e {f : Row} {n l : Int32} {t : TS} {s : GS} (hn : 0 ≤ n ∧ n ≤ 740) (hl : 0 ≤ l ∧ l ≤ 740) (he : t.2.1 = s.1) (hs : 0 ≤ s.1 ∧ s.1 ≤ n) : tJ f n l (rdT (f, n, mnL n l) t) (goG (f, n, l) s) := by
  obtain ⟨st, sp, fm, va, fa, pl⟩ := t
  obtain ⟨to, fr, kd, nu, wo⟩ := s
  dsimp only at he hs
  subst he
  have N1 : n.toNatClampNeg ≤ 740 := (cl_le hn.1 (show (0 : Int32) ≤ 740 by decide)).mpr hn.2
  have S1 : sp.toNatClampNeg ≤ n.toNatClampNeg := (cl_le hs.1 hn.1).mpr hs.2
  have hml : 0 ≤ mnL n l ∧ mnL n l ≤ n ∧ mnL n l ≤ l := by
    simp only [mnL]
    by_cases q : n < l
    · rw [if_pos q]; exact ⟨hn.1, Int32.le_refl _, by grind⟩
    · rw [if_neg q]; exact ⟨hl.1, by grind, Int32.le_refl _⟩
  have M1 : (mnL n l).toNatClampNeg ≤ n.toNatClampNeg := (cl_le hml.1 hn.1).mpr hml.2.1
  have M2 : (mnL n l).toNatClampNeg ≤ l.toNatClampNeg := (cl_le hml.1 hl.1).mpr hml.2.2
  have ltq : l < n ↔ l.toNatClampNeg < n.toNatClampNeg := (cl_lt hl.1 hn.1).symm
  have M3 : l < n → mnL n l = l := fun q => if_neg (by grind)
  have M4 : ¬ l < n → mnL n l = n := fun q => by
    simp only [mnL]
    by_cases z : n < l
    · rw [if_pos z]
    · rw [if_neg z]; grind
  have sk := sk_min (f := f) ((mnL n l).toNatClampNeg - sp.toNatClampNeg) (n.toNatClampNeg - sp.toNatClampNeg) sp.toNatClampNeg (by omega)
  have b2 := skR_le f (n.toNatClampNeg - sp.toNatClampNeg) sp.toNatClampNeg
  simp only [rdT, goG]
  generalize skR f ((mnL n l).toNatClampNeg - sp.toNatClampNeg) sp.toNatClampNeg = p1 at sk ⊢
  generalize skR f (n.toNatClampNeg - sp.toNatClampNeg) sp.toNatClampNeg = p2 at sk b2 ⊢
  by_cases qE : (mnL n l).toNatClampNeg ≤ p1
  · rw [if_pos qE]
    by_cases ql : l < n
    · rw [if_pos ⟨ql, by rw [M3 ql] at qE; omega⟩]
      exact ⟨M3 ql, Or.inl ⟨rfl, by rw [if_pos ql]⟩⟩
    · have e : mnL n l = n := M4 ql
      rw [if_neg (fun z => ql z.1), if_pos (by rw [e] at qE; omega)]
      refine ⟨?_, Or.inl ⟨rfl, by rw [if_neg ql]⟩⟩
      show mnL n l = nI p2
      rw [e, ← nI_cl hn.1]
      congr 1
      rw [e] at qE; omega
  · have ep : p2 = p1 := by omega
    subst ep
    rw [if_neg qE, if_neg (show ¬ (l < n ∧ l.toNatClampNeg ≤ p2) from fun z => by have := z.2; omega), if_neg (show ¬ n.toNatClampNeg ≤ p2 by omega)]
    by_cases q59 : f p2 = 59
    · have nL : ¬ ((97 ≤ f p2 ∧ f p2 ≤ 122) ∨ (48 ≤ f p2 ∧ f p2 ≤ 57)) := by rw [q59]; decide
      rw [if_pos q59, if_pos nL, if_pos q59]
      exact ⟨rfl, Or.inr (Or.inr (Or.inr (Or.inl ⟨rfl, rfl, (nI_1 p2).symm⟩)))⟩
    · rw [if_neg q59]
      by_cases qA : (97 ≤ f p2 ∧ f p2 ≤ 122) ∨ (48 ≤ f p2 ∧ f p2 ≤ 57)
      · rw [if_neg (not_not_intro qA)]
        obtain ⟨le, ele⟩ : ∃ le : Int32, le = if 97 ≤ f p2 ∧ f p2 ≤ 122 then 1 else 0 := ⟨_, rfl⟩
        rw [← ele]
        have hle : le = 0 ∨ le = 1 := by rw [ele]; exact ite_01
        obtain ⟨L2, D2, r1, r2, r3, r4, r5, r6, r7, _, r8⟩ := sg_wg (f := f) (a := p2) hle (n.toNatClampNeg - p2) p2 0 0 0 1 0 0 0 0 (Nat.le_refl _) (by omega) (by omega) rfl rfl (gd_0 hle).symm (fun _ _ => rfl) (fun _ _ => ⟨by rw [Nat.sub_self]; rfl, fun k hk => by omega⟩)
        have wl := wgo_le f p2 le (n.toNatClampNeg - p2) p2 1 0 0
        -- the first sign counts
        have h1 := wgo_1 (f := f) (a := p2) (le := le) (n := n.toNatClampNeg - p2) (p := p2) (good := 1) (nu := 0) (wo := 0) qA (by omega)
        generalize wgo f p2 le (n.toNatClampNeg - p2) p2 1 0 0 = W at r1 r4 r5 r6 r7 wl h1 ⊢
        generalize sgR f (n.toNatClampNeg - p2) p2 0 0 0 = G at r1 r2 r3 r6 ⊢
        have eW : W.1 = p2 + (L2 + D2) := by omega
        have hm : 1 ≤ L2 + D2 := by omega
        rw [r2, r3, r1, eW]
        have i0 : ∀ x : Nat, x < 1000 → (nI x = 0 ↔ x = 0) := fun x hx => ⟨fun z => nI_inj (b := 0) (by omega) (by omega) z, fun z => by rw [z]; rfl⟩
        have i1 : ∀ x : Nat, x < 1000 → (1 ≤ nI x ↔ 1 ≤ x) := fun x hx => nI_leq (a := 1) (by omega) (by omega)
        have i5 : ∀ x : Nat, x < 1000 → (nI x ≤ 5 ↔ x ≤ 5) := fun x hx => nI_leq (b := 5) (by omega) (by omega)
        have i3 : ∀ x : Nat, x < 1000 → (nI x ≤ 3 ↔ x ≤ 3) := fun x hx => nI_leq (b := 3) (by omega) (by omega)
        have hm3 : p2 + (L2 + D2) - p2 = L2 + D2 := by omega
        rw [hm3]
        simp only [fmF, knd]
        rw [r5]
        refine ⟨rfl, ?_⟩
        by_cases c1 : D2 = 0 ∧ L2 ≤ 5
        · -- a word
          have c2 : 1 ≤ L2 := by omega
          have fl : isL (f p2) := by
            have := (r7 c1.1 (by omega)).2 0 (by omega)
            exact this
          have el1 : le = 1 := by rw [ele]; exact if_pos fl
          have hk : (if gd le L2 D2 = 0 ∨ (if le ≠ 0 then 5 else 3) < L2 + D2 then (1 : Int32) else if le ≠ 0 then 2 else 3) = 2 := by
            have g1 : gd le L2 D2 = 1 := by rw [el1]; exact if_pos c1.1
            rw [g1, if_neg ?_, el1]
            · rfl
            · intro z
              rcases z with z | z
              · exact absurd z (by decide)
              · rw [el1, if_pos (show (1 : Int32) ≠ 0 by decide)] at z; omega
          refine Or.inr (Or.inl ⟨?_, hk, rfl, p2, L2 + D2, rfl, rfl, hm, by omega, by omega, (r7 c1.1 (by omega)).1, (r7 c1.1 (by omega)).2⟩)
          show (if nI D2 = 0 ∧ 1 ≤ nI L2 ∧ nI L2 ≤ 5 then (1 : Int32) else if nI L2 = 0 ∧ 1 ≤ nI D2 ∧ nI D2 ≤ 3 then 2 else 4) = 1
          rw [if_pos ⟨(i0 D2 (by omega)).mpr c1.1, (i1 L2 (by omega)).mpr c2, (i5 L2 (by omega)).mpr c1.2⟩]
        · have nf1 : ¬ (nI D2 = 0 ∧ 1 ≤ nI L2 ∧ nI L2 ≤ 5) := fun z => c1 ⟨(i0 D2 (by omega)).mp z.1, (i5 L2 (by omega)).mp z.2.2⟩
          by_cases c2 : L2 = 0 ∧ D2 ≤ 3
          · -- a number
            have c3 : 1 ≤ D2 := by omega
            have el0 : le = 0 := by
              rw [ele]
              refine if_neg (fun z => ?_)
              have := r8 (by omega) z
              omega
            have hk : (if gd le L2 D2 = 0 ∨ (if le ≠ 0 then 5 else 3) < L2 + D2 then (1 : Int32) else if le ≠ 0 then 2 else 3) = 3 := by
              have g1 : gd le L2 D2 = 1 := by rw [el0]; exact if_pos c2.1
              rw [g1, if_neg ?_, el0]
              · rfl
              · intro z
                rcases z with z | z
                · exact absurd z (by decide)
                · rw [el0, if_neg (show ¬ ((0 : Int32) ≠ 0) by decide)] at z; omega
            refine Or.inr (Or.inr (Or.inl ⟨?_, hk, rfl, r6 c2.1 (by omega)⟩))
            show (if nI D2 = 0 ∧ 1 ≤ nI L2 ∧ nI L2 ≤ 5 then (1 : Int32) else if nI L2 = 0 ∧ 1 ≤ nI D2 ∧ nI D2 ≤ 3 then 2 else 4) = 2
            rw [if_neg nf1, if_pos ⟨(i0 L2 (by omega)).mpr c2.1, (i1 D2 (by omega)).mpr c3, (i3 D2 (by omega)).mpr c2.2⟩]
          · have nf2 : ¬ (nI L2 = 0 ∧ 1 ≤ nI D2 ∧ nI D2 ≤ 3) := fun z => c2 ⟨(i0 L2 (by omega)).mp z.1, (i3 D2 (by omega)).mp z.2.2⟩
            refine Or.inr (Or.inr (Or.inr (Or.inr ⟨?_, ?_⟩)))
            · show (if nI D2 = 0 ∧ 1 ≤ nI L2 ∧ nI L2 ≤ 5 then (1 : Int32) else if nI L2 = 0 ∧ 1 ≤ nI D2 ∧ nI D2 ≤ 3 then 2 else 4) = 4
              rw [if_neg nf1, if_neg nf2]
            · refine if_pos ?_
              rcases hle with z | z
              · rw [z, if_neg (show ¬ ((0 : Int32) ≠ 0) by decide)]
                by_cases y : L2 = 0
                · exact Or.inr (by omega)
                · exact Or.inl (if_neg y)
              · rw [z, if_pos (show (1 : Int32) ≠ 0 by decide)]
                by_cases y : D2 = 0
                · exact Or.inr (by omega)
                · exact Or.inl (if_neg y)
      · rw [if_pos qA, if_neg q59]
        have e1 : sgR f (n.toNatClampNeg - p2) p2 0 0 0 = (p2, 0, 0, 0) := by
          obtain ⟨k, hk⟩ : ∃ k, n.toNatClampNeg - p2 = k + 1 := ⟨n.toNatClampNeg - p2 - 1, by omega⟩
          rw [hk]
          simp only [sgR]
          rw [if_neg (fun z => qA (Or.inl z)), if_neg (fun z => qA (Or.inr z))]
        rw [e1]
        exact ⟨rfl, Or.inr (Or.inr (Or.inr (Or.inr ⟨rfl, rfl⟩)))⟩
