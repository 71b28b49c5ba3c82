/-! both sides: the handle's steps -/
def sN (lg : Row) : Nat → Nat
  | 0 => 0
  | k + 1 => sN lg k + (lg k).toNatClampNeg
def lgB (lg : Row) (n : Nat) : Prop := n ≤ 20 ∧ ∀ k, k < n → 1 ≤ lg k ∧ lg k ≤ 99
theorem lg_cl {l : Int32} (h : 1 ≤ l ∧ l ≤ 99) : 1 ≤ l.toNatClampNeg ∧ l.toNatClampNeg ≤ 99 ∧ nI l.toNatClampNeg = l := by
  have a := cl_pos h.1
  have b : l.toNatClampNeg ≤ 99 := (cl_le (by grind) (show (0 : Int32) ≤ 99 by decide)).mpr h.2
  exact ⟨a, b, nI_cl (by grind)⟩
theorem nI_subl {a b : Nat} (h : b ≤ a) : nI a - nI b = nI (a - b) := by
  have e : nI (a - b) + nI b = nI a := by rw [nI_add]; congr 1; omega
  rw [← e]; grind
theorem nI_leq {a b : Nat} (ha : a < 2 ^ 31) (hb : b < 2 ^ 31) : nI a ≤ nI b ↔ a ≤ b := by
  rw [le_toInt, nI_toInt ha, nI_toInt hb]; omega
theorem nI_ltq {a b : Nat} (ha : a < 2 ^ 31) (hb : b < 2 ^ 31) : nI a < nI b ↔ a < b := by
  rw [in_toInt, nI_toInt ha, nI_toInt hb]; omega
theorem nI_inj {a b : Nat} (ha : a < 2 ^ 31) (hb : b < 2 ^ 31) (h : nI a = nI b) : a = b := by
  have := congrArg Int32.toInt h
  rw [nI_toInt ha, nI_toInt hb] at this
  omega
theorem sN_b {lg : Row} {n : Nat} (h : lgB lg n) : ∀ k, k ≤ n → sumR lg k = nI (sN lg k) ∧ sN lg k ≤ 99 * k := by
  intro k
  induction k with
  | zero => intro _; exact ⟨rfl, Nat.le_refl _⟩
  | succ k ih =>
    intro hk
    obtain ⟨a, b⟩ := ih (by omega)
    obtain ⟨c, d, e⟩ := lg_cl (h.2 k (by omega))
    simp only [sumR, sN]
    refine ⟨?_, by omega⟩
    rw [a, ← nI_add, e]
/-- the step j is the one at tick T -/
def sOK (n : Nat) (lg : Row) (j T : Nat) : Prop := j < n ∧ (j + 1 = n ∨ T ≤ sN lg (j + 1)) ∧ ∀ i, i < j → sN lg (i + 1) < T
theorem sOK_u {n : Nat} {lg : Row} {j i T : Nat} (h : sOK n lg j T) (g : sOK n lg i T) : j = i := by
  obtain ⟨a1, a2, a3⟩ := h
  obtain ⟨b1, b2, b3⟩ := g
  rcases Nat.lt_trichotomy j i with q | q | q
  · have := b3 j q; omega
  · exact q
  · have := a3 i q; omega
theorem sa_N {lg : Row} : ∀ (m k T : Nat), lgB lg (k + m) → 1 ≤ m → sN lg k < T → T ≤ 700 → ∃ j, saR lg m k (nI (T - sN lg k)) = nI j ∧ k ≤ j ∧ j < k + m ∧ (j + 1 = k + m ∨ T ≤ sN lg (j + 1)) ∧ ∀ i, k ≤ i → i < j → sN lg (i + 1) < T := by
  intro m
  induction m with
  | zero => intro k T _ h; omega
  | succ m ih =>
    intro k T h _ h1 h2
    obtain ⟨c, d, e⟩ := lg_cl (h.2 k (by omega))
    have s1 : sN lg (k + 1) = sN lg k + (lg k).toNatClampNeg := rfl
    simp only [saR]
    by_cases q : nI (T - sN lg k) ≤ lg k
    · rw [if_pos q]
      rw [← e, nI_leq (by omega) (by omega)] at q
      exact ⟨k, rfl, Nat.le_refl _, by omega, Or.inr (by omega), fun i a b => by omega⟩
    · rw [if_neg q]
      rw [← e, nI_leq (by omega) (by omega)] at q
      have e2 : nI (T - sN lg k) - lg k = nI (T - sN lg (k + 1)) := by
        rw [← e, nI_subl (by omega), s1]; congr 1; omega
      rw [e2]
      by_cases z : m = 0
      · subst z
        refine ⟨k, ?_, Nat.le_refl _, by omega, Or.inl rfl, fun i a b => by omega⟩
        simp only [saR]
        rw [← nI_1]; grind
      · obtain ⟨j, a1, a2, a3, a4, a5⟩ := ih (k + 1) T (by rw [show k + 1 + m = k + (m + 1) by omega]; exact h) (by omega) (by omega) h2
        refine ⟨j, a1, by omega, by omega, ?_, fun i b1 b2 => ?_⟩
        · rcases a4 with q2 | q2
          · exact Or.inl (by omega)
          · exact Or.inr q2
        · by_cases y : i = k
          · subst y; omega
          · exact a5 i (by omega) b2
theorem sa_0 {lg : Row} {n T : Nat} (h : lgB lg n) (hn : 1 ≤ n) (h1 : 1 ≤ T) (h2 : T ≤ 700) : ∃ j, saR lg n 0 (nI T) = nI j ∧ sOK n lg j T := by
  obtain ⟨j, a1, a2, a3, a4, a5⟩ := sa_N n 0 T (by rw [Nat.zero_add]; exact h) hn (by show 0 < T; omega) h2
  refine ⟨j, a1, by omega, ?_, fun i hi => a5 i (Nat.zero_le _) hi⟩
  rcases a4 with q | q
  · exact Or.inl (by omega)
  · exact Or.inr q
theorem sOK_n {n : Nat} {lg : Row} {j T : Nat} (hl : lgB lg n) (h : sOK n lg j T) : sOK n lg (if j + 1 < n ∧ sN lg (j + 1) < T + 1 then j + 1 else j) (T + 1) := by
  obtain ⟨a1, a2, a3⟩ := h
  by_cases q : j + 1 < n ∧ sN lg (j + 1) < T + 1
  · rw [if_pos q]
    obtain ⟨c, d, e⟩ := lg_cl (hl.2 (j + 1) q.1)
    have s1 : sN lg (j + 1 + 1) = sN lg (j + 1) + (lg (j + 1)).toNatClampNeg := rfl
    refine ⟨q.1, ?_, fun i hi => ?_⟩
    · rcases a2 with z | z
      · omega
      · exact Or.inr (by omega)
    · by_cases y : i = j
      · subst y; exact q.2
      · have := a3 i (by omega); omega
  · rw [if_neg q]
    refine ⟨a1, ?_, fun i hi => ?_⟩
    · rcases a2 with z | z
      · exact Or.inl z
      · by_cases y : j + 1 = n
        · exact Or.inl y
        · exact Or.inr (by
            have : ¬ sN lg (j + 1) < T + 1 := fun w => q ⟨by omega, w⟩
            omega)
    · have := a3 i hi; omega
/-- the two sides' handles are alike -/
def LJ (L M : LV) : Prop := L.1 = M.1 ∧ (0 ≤ M.1 ∧ M.1 ≤ 20) ∧ L.2.1 = M.2.1 ∧ lgB M.2.2.2.2 M.1.toNatClampNeg ∧ ∀ k, k < M.1.toNatClampNeg → L.2.2.1 k = M.2.2.1 k ∧ (L.2.2.1 k = 2 → L.2.2.2.1 k = M.2.2.2.1 k ∧ 0 ≤ M.2.2.2.1 k ∧ M.2.2.2.1 k ≤ 99) ∧ L.2.2.2.2 k = sumR M.2.2.2.2 (k + 1)
/-- the handle's step s at the end of tick T -/
def sJ (M : LV) (s : Int32) (T : Nat) : Prop := (M.1 = 0 ∧ s = 0) ∨ (1 ≤ M.1.toNatClampNeg ∧ ∃ j, s = nI j ∧ sOK M.1.toNatClampNeg M.2.2.2.2 j T)
theorem sJ_0 {L M : LV} (h : LJ L M) : sJ M 0 0 := by
  obtain ⟨e1, ⟨b1, b2⟩, e2, hl, hk⟩ := h
  by_cases q : M.1 = 0
  · exact Or.inl ⟨q, rfl⟩
  · have p : 1 ≤ M.1.toNatClampNeg := cl_pos (by grind)
    exact Or.inr ⟨p, 0, rfl, by omega, Or.inr (Nat.zero_le _), fun i hi => by omega⟩
theorem ov_e {L M : LV} (h : LJ L M) {j T : Nat} (hj : j < M.1.toNatClampNeg) (hT : T < 1000) : (overF L.1 L.2.2.2.2 (nI j) (nI (T + 1)) ≠ 0) ↔ (j + 1 < M.1.toNatClampNeg ∧ sN M.2.2.2.2 (j + 1) < T + 1) := by
  obtain ⟨e1, ⟨b1, b2⟩, e2, hl, hk⟩ := h
  have c := hk j hj
  have n20 := hl.1
  obtain ⟨s1, s2⟩ := sN_b hl (j + 1) (by omega)
  have en := nI_cl b1
  have a0 : 0 ≤ nI j := nI_le (a := 0) (Nat.zero_le _) (by omega)
  have a1 : nI j < L.1 - 1 ↔ j + 1 < M.1.toNatClampNeg := by
    rw [e1, ← en, show nI M.1.toNatClampNeg - 1 = nI (M.1.toNatClampNeg - 1) from nI_subl (b := 1) (by omega), nI_ltq (by omega) (by omega)]
    rw [nI_clamp (by omega)]
    omega
  have a2 : nI j < 20 := (nI_ltq (b := 20) (by omega) (by omega)).mpr (by omega)
  have a3 : L.2.2.2.2 j < nI (T + 1) ↔ sN M.2.2.2.2 (j + 1) < T + 1 := by
    rw [c.2.2, s1, nI_ltq (by omega) (by omega)]
  simp only [overF]
  rw [nI_clamp (by omega)]
  constructor
  · intro q
    by_cases z : 0 ≤ nI j ∧ nI j < L.1 - 1 ∧ nI j < 20 ∧ L.2.2.2.2 j < nI (T + 1)
    · exact ⟨a1.mp z.2.1, a3.mp z.2.2.2⟩
    · rw [if_neg z] at q; exact absurd rfl q
  · intro q
    rw [if_pos ⟨a0, a1.mpr q.1, a2, a3.mpr q.2⟩]
    decide
theorem sJ_n {L M : LV} (h : LJ L M) {s : Int32} {T : Nat} (hT : T < 1000) (g : sJ M s T) : sJ M (if overF L.1 L.2.2.2.2 s (nI (T + 1)) ≠ 0 then s + 1 else s) (T + 1) := by
  rcases g with ⟨g1, g2⟩ | ⟨g1, j, e, g2⟩
  · refine Or.inl ⟨g1, ?_⟩
    rw [if_neg ?_]
    · exact g2
    · simp only [overF]
      rw [if_neg (by rw [h.1, g1, g2]; exact fun z => absurd z.2.1 (by decide))]
      exact fun z => z rfl
  · subst e
    refine Or.inr ⟨g1, _, ?_, sOK_n h.2.2.2.1 g2⟩
    by_cases q : overF L.1 L.2.2.2.2 (nI j) (nI (T + 1)) ≠ 0
    · rw [if_pos q, if_pos ((ov_e h g2.1 hT).mp q), nI_1]
    · rw [if_neg q, if_neg (fun z => q ((ov_e h g2.1 hT).mpr z))]
/-- what the handle does at tick T -/
theorem act_e {L M : LV} (h : LJ L M) {s df : Int32} {T : Nat} (h1 : 1 ≤ T) (h2 : T ≤ 700) (g : sJ M s T) (hd : ¬ df ≤ nI T) : stepF L.1 L.2.2.1 1 s = whG M (nI T) df ∧ (whG M (nI T) df = 2 → stepF L.1 L.2.2.2.1 0 s = drG M (nI T) ∧ 0 ≤ drG M (nI T) ∧ drG M (nI T) ≤ 99) := by
  obtain ⟨e1, ⟨b1, b2⟩, e2, hl, hk⟩ := h
  have n20 := hl.1
  simp only [whG, drG]
  rw [if_neg hd]
  rcases g with ⟨g1, g2⟩ | ⟨g1, j, e, g2⟩
  · have z : saR M.2.2.2.2 M.1.toNatClampNeg 0 (nI T) = (-1) := by rw [g1]; rfl
    rw [z, if_pos rfl]
    refine ⟨?_, fun q => absurd q (by decide)⟩
    simp only [stepF]
    rw [if_neg (by rw [e1, g1, g2]; exact fun y => absurd y.2.1 (by decide))]
  · obtain ⟨i, a1, a2⟩ := sa_0 hl g1 h1 h2
    have u := sOK_u a2 g2
    subst u
    subst e
    have hi := a2.1
    have en := nI_cl b1
    have c0 : 0 ≤ nI i := nI_le (a := 0) (Nat.zero_le _) (by omega)
    have c1 : nI i < L.1 := by rw [e1, ← en]; exact (nI_ltq (by omega) (by omega)).mpr hi
    have c2 : nI i < 20 := (nI_ltq (b := 20) (by omega) (by omega)).mpr (by omega)
    have c3 : ¬ nI i = (-1) := by grind
    have ci := nI_clamp (n := i) (by omega)
    obtain ⟨k1, k2, k3⟩ := hk i hi
    rw [a1, if_neg c3, if_neg c3]
    simp only [stepF]
    rw [if_pos ⟨c0, c1, c2⟩, if_pos ⟨c0, c1, c2⟩, ci]
    exact ⟨k1, fun q => k2 (k1.trans q)⟩
