/-! both sides: walks -/
theorem bv_i {x y : Int32} (h : ∀ i, x.toBitVec.getLsbD i = y.toBitVec.getLsbD i) : x = y := by
  apply Int32.toBitVec_inj.mp
  apply BitVec.eq_of_getLsbD_eq
  intro i _
  exact h i
theorem gb_and (x y : Int32) (i : Nat) : (x &&& y).toBitVec.getLsbD i = (x.toBitVec.getLsbD i && y.toBitVec.getLsbD i) := by
  show (x.toBitVec &&& y.toBitVec).getLsbD i = _
  rw [BitVec.getLsbD_and]
theorem gb_xor (x y : Int32) (i : Nat) : (x ^^^ y).toBitVec.getLsbD i = (x.toBitVec.getLsbD i ^^ y.toBitVec.getLsbD i) := by
  show (x.toBitVec ^^^ y.toBitVec).getLsbD i = _
  rw [BitVec.getLsbD_xor]
theorem gb_0 (i : Nat) : (0 : Int32).toBitVec.getLsbD i = false := by
  show (0#32).getLsbD i = false
  rw [BitVec.getLsbD_zero]
theorem xa_e (x y s : Int32) : (x ^^^ y) &&& s = 0 ↔ x &&& s = y &&& s := by
  constructor
  · intro h
    apply bv_i
    intro i
    have q := congrArg (fun v : Int32 => v.toBitVec.getLsbD i) h
    simp only [gb_and, gb_xor, gb_0] at q ⊢
    revert q
    cases x.toBitVec.getLsbD i <;> cases y.toBitVec.getLsbD i <;> cases s.toBitVec.getLsbD i <;> simp
  · intro h
    apply bv_i
    intro i
    have q := congrArg (fun v : Int32 => v.toBitVec.getLsbD i) h
    simp only [gb_and, gb_xor, gb_0] at q ⊢
    revert q
    cases x.toBitVec.getLsbD i <;> cases y.toBitVec.getLsbD i <;> cases s.toBitVec.getLsbD i <;> simp
theorem gb_n1 {i : Nat} (h : i < 32) : (-1 : Int32).toBitVec.getLsbD i = true := by
  show (BitVec.allOnes 32).getLsbD i = true
  rw [BitVec.getLsbD_allOnes]
  exact decide_eq_true h
theorem sb_e (s u : Int32) : s &&& (u ^^^ (-1)) = 0 ↔ s &&& u = s := by
  constructor
  · intro h
    apply Int32.toBitVec_inj.mp
    apply BitVec.eq_of_getLsbD_eq
    intro i hi
    have q := congrArg (fun v : Int32 => v.toBitVec.getLsbD i) h
    simp only [gb_and, gb_xor, gb_0, gb_n1 hi] at q ⊢
    revert q
    cases s.toBitVec.getLsbD i <;> cases u.toBitVec.getLsbD i <;> simp
  · intro h
    apply Int32.toBitVec_inj.mp
    apply BitVec.eq_of_getLsbD_eq
    intro i hi
    have q := congrArg (fun v : Int32 => v.toBitVec.getLsbD i) h
    simp only [gb_and, gb_xor, gb_0, gb_n1 hi] at q ⊢
    revert q
    cases s.toBitVec.getLsbD i <;> cases u.toBitVec.getLsbD i <;> simp
/-- how often a value comes -/
def cnt (h : Row) (x : Int32) : Nat → Nat
  | 0 => 0
  | k + 1 => if h k = x then cnt h x k + 1 else cnt h x k
theorem prI_c (h : Row) (i : Nat) : ∀ j, prI h i j = nI (cnt h (h i) j) := by
  intro j
  induction j with
  | zero => rfl
  | succ j ih =>
    simp only [prI, cnt]
    by_cases q : h i = h j
    · rw [if_pos q, if_pos q.symm, ih, nI_1]
    · rw [if_neg q, if_neg (fun z => q z.symm), ih]
theorem cnt_0 {h : Row} {x : Int32} : ∀ k, (∀ j, j < k → ¬ h j = x) → cnt h x k = 0 := by
  intro k
  induction k with
  | zero => intro _; rfl
  | succ k ih => intro q; simp only [cnt]; rw [if_neg (q k (by omega)), ih (fun j hj => q j (by omega))]
theorem us_in {S : Row} {m : Nat} : ∀ i, i < m → usR S m ||| (S i ^^^ S 0) = usR S m := by
  induction m with
  | zero => intro i hi; omega
  | succ m ih =>
    intro i hi
    by_cases z : i = 0
    · subst z
      rw [Int32.xor_self, Int32.or_zero]
    · rw [usR_s _ (show 1 ≤ m by omega)]
      by_cases q : i = m
      · subst q
        rw [Int32.or_assoc, Int32.or_self]
      · rw [Int32.or_assoc, Int32.or_comm (S m ^^^ S 0), ← Int32.or_assoc, ih i (by omega)]
theorem us_cg {S T : Row} : ∀ m, (∀ k, k < m → S k = T k) → usR S m = usR T m := by
  intro m
  induction m with
  | zero => intro _; rfl
  | succ m ih =>
    intro h
    by_cases q : 1 ≤ m
    · rw [usR_s _ q, usR_s _ q, ih (fun k hk => h k (by omega)), h m (by omega), h 0 (by omega)]
    · have : m = 0 := by omega
      subst this; rfl
/-- the unlike sets, how often each comes, and the pairs left together: of the first k -/
def wJ (h : Row) (k : Nat) (s : HS) : Prop := ∃ m : Nat, s.2.2.1 = nI m ∧ m ≤ k ∧ (1 ≤ k → 1 ≤ m ∧ s.1 0 = h 0) ∧ (∀ i, i < m → ∃ j, j < k ∧ s.1 i = h j) ∧ (∀ j, j < k → ∃ i, i < m ∧ s.1 i = h j) ∧ (∀ i j, i < m → j < m → s.1 i = s.1 j → i = j) ∧ (∀ i, i < m → s.2.1 i = nI (cnt h (s.1 i) k)) ∧ s.2.2.2 = prO h k ∧ usR s.1 m = usR h k
theorem fd_in {S : Row} {x : Int32} : ∀ n, fdR S x n < n → S (fdR S x n) = x := by
  intro n
  induction n with
  | zero => intro h; exact absurd h (Nat.not_lt_zero _)
  | succ n ih =>
    intro h
    simp only [fdR] at h ⊢
    by_cases q : fdR S x n < n
    · rw [if_pos q]; exact ih q
    · rw [if_neg q] at h ⊢
      by_cases z : S n = x
      · rw [if_pos z]; exact z
      · rw [if_neg z] at h; omega
theorem fd_no {S : Row} {x : Int32} : ∀ n, ¬ fdR S x n < n → ∀ i, i < n → ¬ S i = x := by
  intro n
  induction n with
  | zero => intro _ i hi; omega
  | succ n ih =>
    intro h i hi
    simp only [fdR] at h
    by_cases q : fdR S x n < n
    · rw [if_pos q] at h; omega
    · rw [if_neg q] at h
      by_cases z : S n = x
      · rw [if_pos z] at h; omega
      · by_cases e : i = n
        · subst e; exact z
        · exact ih q i (by omega)
theorem wJ_n {h : Row} {k : Nat} {s : HS} (hk : k < 1000) (w : wJ h k s) : wJ h (k + 1) (ahF s (h k)) := by
  obtain ⟨m, em, hm, h0, h1, h2, h3, h4, h5, h6⟩ := w
  have ecl : s.2.2.1.toNatClampNeg = m := by rw [em, nI_clamp (by omega)]
  by_cases q : fdR s.1 (h k) m < m
  · have eS := fd_in m q
    obtain ⟨i0, ei0⟩ : ∃ i0, i0 = fdR s.1 (h k) m := ⟨_, rfl⟩
    rw [← ei0] at q eS
    have eA : ahF s (h k) = (s.1, upd s.2.1 i0 (s.2.1 i0 + 1), s.2.2.1, s.2.2.2 + s.2.1 i0) := ahF_in (by rw [ecl, ei0]) (by rw [ecl]; exact q)
    rw [eA]
    have k1 : 1 ≤ k := by omega
    refine ⟨m, em, by omega, fun _ => h0 k1, fun i hi => ?_, fun j hj => ?_, h3, fun i hi => ?_, ?_, ?_⟩
    · obtain ⟨j, a, b⟩ := h1 i hi; exact ⟨j, by omega, b⟩
    · by_cases e : j = k
      · subst e; exact ⟨i0, q, eS⟩
      · exact h2 j (by omega)
    · show upd s.2.1 i0 (s.2.1 i0 + 1) i = nI (cnt h (s.1 i) (k + 1))
      simp only [cnt]
      by_cases e : i = i0
      · subst e
        rw [upd_s, if_pos eS.symm, h4 i hi, nI_1]
      · rw [upd_n _ _ e, if_neg (fun z => e (h3 i i0 hi q (by rw [eS]; exact z.symm)))]
        exact h4 i hi
    · show s.2.2.2 + s.2.1 i0 = prO h (k + 1)
      simp only [prO]
      rw [h5, prI_c, h4 i0 q, eS]
    · show usR s.1 m = usR h (k + 1)
      rw [usR_s _ k1, ← h6, ← eS, ← (h0 k1).2, us_in i0 q]
  · have nS := fd_no m q
    have eq : fdR s.1 (h k) m = m := by have := fdR_le s.1 (h k) m; omega
    have eA : ahF s (h k) = (upd s.1 m (h k), upd s.2.1 m 1, s.2.2.1 + 1, s.2.2.2) := by
      have := ahF_out (s := s) (x := h k) (by rw [ecl]; exact eq)
      rw [ecl] at this
      exact this
    have nh : ∀ j, j < k → ¬ h j = h k := fun j hj z => by
      obtain ⟨i, a, b⟩ := h2 j hj
      exact nS i a (b.trans z)
    rw [eA]
    refine ⟨m + 1, by show s.2.2.1 + 1 = _; rw [em, nI_1], by omega, fun _ => ⟨by omega, ?_⟩, fun i hi => ?_, fun j hj => ?_, fun i j hi hj e => ?_, fun i hi => ?_, ?_, ?_⟩
    · show upd s.1 m (h k) 0 = h 0
      by_cases z : m = 0
      · have k0 : k = 0 := by
          by_cases y : 1 ≤ k
          · have := (h0 y).1; omega
          · omega
        subst z; rw [upd_s, k0]
      · rw [upd_n _ _ (by omega)]
        exact (h0 (by omega)).2
    · show ∃ j, j < k + 1 ∧ upd s.1 m (h k) i = h j
      by_cases z : i = m
      · subst z; exact ⟨k, by omega, upd_s _ _ _⟩
      · rw [upd_n _ _ z]
        obtain ⟨j, a, b⟩ := h1 i (by omega)
        exact ⟨j, by omega, b⟩
    · show ∃ i, i < m + 1 ∧ upd s.1 m (h k) i = h j
      by_cases z : j = k
      · subst z; exact ⟨m, by omega, upd_s _ _ _⟩
      · obtain ⟨i, a, b⟩ := h2 j (by omega)
        exact ⟨i, by omega, by rw [upd_n _ _ (by omega)]; exact b⟩
    · have e : upd s.1 m (h k) i = upd s.1 m (h k) j := e
      by_cases z : i = m
      · by_cases y : j = m
        · omega
        · subst z
          rw [upd_s, upd_n _ _ y] at e
          exact absurd e.symm (nS j (by omega))
      · by_cases y : j = m
        · subst y
          rw [upd_s, upd_n _ _ z] at e
          exact absurd e (nS i (by omega))
        · rw [upd_n _ _ z, upd_n _ _ y] at e
          exact h3 i j (by omega) (by omega) e
    · show upd s.2.1 m 1 i = nI (cnt h (upd s.1 m (h k) i) (k + 1))
      by_cases z : i = m
      · subst z
        rw [upd_s, upd_s, show cnt h (h k) (k + 1) = cnt h (h k) k + 1 from if_pos rfl, cnt_0 k nh]
        rfl
      · rw [upd_n _ _ z, upd_n _ _ z]
        simp only [cnt]
        rw [if_neg (fun y => nS i (by omega) y.symm)]
        exact h4 i (by omega)
    · show s.2.2.2 = prO h (k + 1)
      simp only [prO]
      rw [prI_c, cnt_0 k nh, h5]
      show _ = _ + 0
      rw [Int32.add_zero]
    · show usR (upd s.1 m (h k)) (m + 1) = usR h (k + 1)
      by_cases z : 1 ≤ k
      · have m1 := (h0 z).1
        rw [usR_s _ m1, usR_s _ z, upd_s, us_cg m (fun i hi => upd_n _ _ (by omega)), h6, upd_n _ _ (show (0 : Nat) ≠ m by omega), (h0 z).2]
      · have k0 : k = 0 := by omega
        have m0 : m = 0 := by omega
        subst k0; subst m0; rfl
theorem wJ_0 (h : Row) (a b : Row) : wJ h 0 (a, b, 0, 0) := ⟨0, rfl, Nat.le_refl _, fun z => absurd z (by omega), fun i hi => absurd hi (Nat.not_lt_zero _), fun j hj => absurd hj (Nat.not_lt_zero _), fun i j hi => absurd hi (Nat.not_lt_zero _), fun i hi => absurd hi (Nat.not_lt_zero _), rfl, rfl⟩
theorem wk_J {hg : Int32 → Int32} {fit : Row} {h : Row} {N : Nat} {a b : Row} (hN : N < 1000) (e : ∀ k, k < N → hg (fit k) = h k) : ∀ k, k ≤ N → wJ h k (wkR hg fit (a, b, 0, 0) k) := by
  intro k
  induction k with
  | zero => intro _; exact wJ_0 h a b
  | succ k ih =>
    intro hk
    show wJ h (k + 1) (ahF (wkR hg fit (a, b, 0, 0) k) (hg (fit k)))
    rw [e k (by omega)]
    exact wJ_n (by omega) (ih (by omega))
/-- parting: both sides ask the same -/
theorem pa_pt {h : Row} {N : Nat} {s : HS} (w : wJ h N s) (st : Int32) (hN : N < 1000) : paF s.1 s.2.2.1.toNatClampNeg st = ptF h N st := by
  obtain ⟨m, em, hm, h0, h1, h2, h3, h4, h5, h6⟩ := w
  have ecl : s.2.2.1.toNatClampNeg = m := by rw [em, nI_clamp (by omega)]
  rw [ecl]
  have e : (∀ i, i < m → ∀ j, j < i → ¬ (s.1 i ^^^ s.1 j) &&& st = 0) ↔ (∀ i, i < N → ∀ j, j < i → ¬ (¬ h i = h j ∧ h i &&& st = h j &&& st)) := by
    constructor
    · intro q i hi j hj z
      obtain ⟨a, a1, a2⟩ := h2 i hi
      obtain ⟨b, b1, b2⟩ := h2 j (by omega)
      have ne : ¬ a = b := fun y => z.1 (by rw [← a2, ← b2, y])
      rcases Nat.lt_or_gt_of_ne ne with c | c
      · exact q b b1 a c ((xa_e _ _ _).mpr (by rw [a2, b2]; exact z.2.symm))
      · exact q a a1 b c ((xa_e _ _ _).mpr (by rw [a2, b2]; exact z.2))
    · intro q i hi j hj z
      have z := (xa_e _ _ _).mp z
      obtain ⟨a, a1, a2⟩ := h1 i hi
      obtain ⟨b, b1, b2⟩ := h1 j (by omega)
      have ne : ¬ s.1 i = s.1 j := fun y => by have := h3 i j hi (by omega) y; omega
      have nh : ¬ h a = h b := fun y => ne (by rw [a2, b2, y])
      have nab : ¬ a = b := fun y => nh (by rw [y])
      rcases Nat.lt_or_gt_of_ne nab with c | c
      · exact q b b1 a c ⟨fun y => nh y.symm, by rw [← a2, ← b2]; exact z.symm⟩
      · exact q a a1 b c ⟨nh, by rw [← a2, ← b2]; exact z⟩
  simp only [paF, ptF]
  by_cases q : ∀ i, i < m → ∀ j, j < i → ¬ (s.1 i ^^^ s.1 j) &&& st = 0
  · rw [if_pos q, if_pos (e.mp q)]
  · rw [if_neg q, if_neg (fun z => q (e.mpr z))]
/-- the least walk: the class looks at fewer sets -/
theorem lw_fn {pa : Int32 → Int32} {u : Nat} (hu : u < 65536) : ∀ (d s : Nat) {b : Nat}, s + d = u → b ≤ u → b &&& u = b → (b = u ∨ b < s) → fnR pa (nI u) (d + 1) (nI s) (nI b) = lwR pa (nI u) d (nI s) (nI b) ∧ ∃ b2, lwR pa (nI u) d (nI s) (nI b) = nI b2 ∧ b2 ≤ u := by
  have pe : ∀ x, x ≤ u → bits (nI x) = nI (popS x) ∧ bcF (nI x) = nI (popS x) := fun x hx => ⟨bits_N (by omega), bcF_N (by omega)⟩
  have sub : ∀ x y, x < 65536 → y < 65536 → x &&& y = x → popS x ≤ popS y ∧ (popS x = popS y → x = y) := by
    intro x y h1 h2 h3
    rw [popS_D, popS_D]
    exact popD_sub 16 x y (by omega) (by omega) h3
  have sm : ∀ x, x ≤ u → (nI x &&& (nI u ^^^ (-1)) = 0 ↔ x &&& u = x) := by
    intro x hx
    rw [sb_e, an_nI (by omega) (by omega)]
    have l : x &&& u ≤ x := Nat.and_le_left
    exact ⟨fun z => nI_inj (by omega) (by omega) z, fun z => by rw [z]⟩
  intro d
  induction d with
  | zero =>
    intro s b hs hb hbu hbs
    have su : s = u := by omega
    subst su
    refine ⟨?_, b, rfl, hb⟩
    simp only [fnR, lwR]
    rw [if_neg ?_]
    intro z
    rcases z.2.1 with y | y
    · rw [(pe s (Nat.le_refl _)).1, (pe b hb).1, nI_ltq (by have := popS_b (n := s); omega) (by have := popS_b (n := b); omega)] at y
      have := (sub b s (by omega) hu hbu).1
      omega
    · have := (nI_ltq (by omega) (by omega)).mp y.2
      omega
  | succ d ih =>
    intro s b hs hb hbu hbs
    have p1 := popS_b (n := s)
    have p2 := popS_b (n := b)
    have ec : (nI s &&& (nI u ^^^ (-1)) = 0 ∧ (bits (nI s) < bits (nI b) ∨ bits (nI s) = bits (nI b) ∧ nI s < nI b) ∧ pa (nI s) ≠ 0) ↔ (bcF (nI s) < bcF (nI b) ∧ nI s &&& (nI u ^^^ (-1)) = 0 ∧ pa (nI s) ≠ 0) := by
      rw [(pe s (by omega)).1, (pe b hb).1, (pe s (by omega)).2, (pe b hb).2]
      constructor
      · intro z
        refine ⟨?_, z.1, z.2.2⟩
        rcases z.2.1 with y | y
        · exact y
        · have l := (nI_ltq (by omega) (by omega)).mp y.2
          have eqp := nI_inj (by omega) (by omega) y.1
          rcases hbs with w | w
          · subst w
            have := (sub s b (by omega) hu ((sm s (by omega)).mp z.1)).2 eqp
            omega
          · omega
      · intro z
        exact ⟨z.2.1, Or.inl z.1, z.2.2⟩
    show fnR pa (nI u) (d + 1) (nI s + 1) (if nI s &&& (nI u ^^^ (-1)) = 0 ∧ (bits (nI s) < bits (nI b) ∨ bits (nI s) = bits (nI b) ∧ nI s < nI b) ∧ pa (nI s) ≠ 0 then nI s else nI b) = lwR pa (nI u) d (nI s + 1) (if bcF (nI s) < bcF (nI b) ∧ nI s &&& (nI u ^^^ (-1)) = 0 ∧ pa (nI s) ≠ 0 then nI s else nI b) ∧ ∃ b2, lwR pa (nI u) d (nI s + 1) (if bcF (nI s) < bcF (nI b) ∧ nI s &&& (nI u ^^^ (-1)) = 0 ∧ pa (nI s) ≠ 0 then nI s else nI b) = nI b2 ∧ b2 ≤ u
    rw [nI_1]
    by_cases q : bcF (nI s) < bcF (nI b) ∧ nI s &&& (nI u ^^^ (-1)) = 0 ∧ pa (nI s) ≠ 0
    · rw [if_pos q, if_pos (ec.mpr q)]
      exact ih (s + 1) (by omega) (by omega) ((sm s (by omega)).mp q.2.1) (Or.inr (by omega))
    · rw [if_neg q, if_neg (fun z => q (ec.mp z))]
      refine ih (s + 1) (by omega) hb hbu ?_
      rcases hbs with w | w
      · exact Or.inl w
      · exact Or.inr (by omega)
theorem walk_e {pa pt : Int32 → Int32} (he : ∀ s, pa s = pt s) {u : Int32} (h : B16 u) : lwR pa u u.toNatClampNeg 0 u = fnR pt u (u + 1).toNatClampNeg 0 u ∧ bcF (lwR pa u u.toNatClampNeg 0 u) = bits (fnR pt u (u + 1).toNatClampNeg 0 u) := by
  obtain ⟨m, hm, rfl⟩ := h
  have e : pa = pt := funext he
  subst e
  have c1 : (nI m).toNatClampNeg = m := nI_clamp (by omega)
  have c2 : (nI m + 1).toNatClampNeg = m + 1 := by rw [nI_1, nI_clamp (by omega)]
  rw [c1, c2]
  obtain ⟨a, b2, eb, hb⟩ := lw_fn (pa := pa) hm m 0 (b := m) (by omega) (Nat.le_refl _) (Nat.and_self _) (Or.inl rfl)
  have a : fnR pa (nI m) (m + 1) 0 (nI m) = lwR pa (nI m) m 0 (nI m) := a
  have eb : lwR pa (nI m) m 0 (nI m) = nI b2 := eb
  rw [a, eb, bcF_N (by omega), bits_N (by omega)]
  exact ⟨rfl, rfl⟩
theorem ht_e {R S : RK} {L M : LV} {tick g : Int32} (hS : RB S) (hL : LJ L M) (hRE : RE R S) (ht : 0 ≤ tick ∧ tick ≤ 400) : htG R L tick g = hoG S M tick g := by
  have t4 : tick.toNatClampNeg ≤ 400 := (cl_le ht.1 (show (0 : Int32) ≤ 400 by decide)).mpr ht.2
  have q := it_pl (RB_bnd hS g) hL (m := tick.toNatClampNeg) (by omega)
  have q2 := hotR_agn q.2.2
  simp only [htG, hoG]
  rw [itA_re (bndK_re hRE g), hRE.1, hRE.2.1]
  exact q2
