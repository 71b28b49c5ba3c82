/-! both sides: guesses that fit -/
theorem RB_bnd {R : RK} (h : RB R) (g : Int32) : RB (bndK R g) := by
  obtain ⟨h1, h2, h3, h4⟩ := h
  refine ⟨h1, h2, h3, fun k k1 k2 => ?_⟩
  obtain ⟨a, b, c, d⟩ := h4 k k1 k2
  refine ⟨a, b, ?_, ?_⟩
  · show 0 ≤ bndL R.2.2.2.2.2.2.1 g k ∧ bndL R.2.2.2.2.2.2.1 g k ≤ 99
    simp only [bndL]
    split
    · by_cases q : k = (g / 10).toNatClampNeg
      · subst q; rw [upd_s]
        split
        · exact ⟨by decide, by decide⟩
        · split
          · exact ⟨by decide, by decide⟩
          · exact ⟨by decide, by decide⟩
      · rw [upd_n _ _ q]; exact c
    · exact c
  · show 0 ≤ bndH R.2.2.2.2.2.2.2.1 g k ∧ bndH R.2.2.2.2.2.2.2.1 g k ≤ 100
    simp only [bndH]
    split
    · by_cases q : k = (g / 10).toNatClampNeg
      · subst q; rw [upd_s]
        split
        · exact ⟨by decide, by decide⟩
        · exact ⟨by decide, by decide⟩
      · rw [upd_n _ _ q]; exact d
    · exact d
def gaB (F : Row) (n : Nat) : Prop := ∀ k, k < n → 0 ≤ F k ∧ F k ≤ 65535
theorem ab_n {x y off : Int32} (hx : 0 ≤ x ∧ x ≤ 65535) (hy : 0 ≤ y ∧ y ≤ 900) : ab (x - y) ≤ off ↔ (y - x ≤ off ∧ x - y ≤ off) := by
  simp only [ab]
  by_cases q : 0 ≤ x - y
  · rw [if_pos q]
    constructor
    · intro h; exact ⟨by grind, h⟩
    · intro h; exact h.2
  · rw [if_neg q]
    constructor
    · intro h; exact ⟨by grind, by grind⟩
    · intro h; have := h.1; grind
theorem ag_nr {T F B : Row} {n : Nat} {t off fr bk : Int32} (hF : gaB F n) (hB : gaB B n) (h1 : 0 ≤ fr ∧ fr ≤ 900) (h2 : 0 ≤ bk ∧ bk ≤ 900) : agF T F B n t off fr bk = nrF T F B n t off fr bk := by
  have e : (∀ k, k < n → T k = t → ab (F k - fr) ≤ off ∧ ab (B k - bk) ≤ off) ↔ (∀ k, k < n → T k = t → (fr - F k ≤ off ∧ F k - fr ≤ off) ∧ (bk - B k ≤ off ∧ B k - bk ≤ off)) := by
    constructor
    · intro q k hk e2
      obtain ⟨a, b⟩ := q k hk e2
      exact ⟨(ab_n (hF k hk) h1).mp a, (ab_n (hB k hk) h2).mp b⟩
    · intro q k hk e2
      obtain ⟨a, b⟩ := q k hk e2
      exact ⟨(ab_n (hF k hk) h1).mpr a, (ab_n (hB k hk) h2).mpr b⟩
  simp only [agF, nrF]
  by_cases q : ∀ k, k < n → T k = t → ab (F k - fr) ≤ off ∧ ab (B k - bk) ≤ off
  · rw [if_pos q, if_pos (e.mp q)]
  · rw [if_neg q, if_neg (fun z => q (e.mpr z))]
theorem fit_e {G : GG} {R : RK} {L M : LV} (hR : RB R) (hL : LJ L M) (hF : gaB G.2.1 G.2.2.2.1) (hB : gaB G.2.2.1 G.2.2.2.1) : ∀ (m t : Nat) {s : AS} {x : PTC}, t + m ≤ 600 → AR R L M 601 0 601 t s x →
    (fitR G R L m (nI (t + 1)) s).1 = (fgR G R M 601 0 601 m (nI (t + 1)) x).1 ∧ (¬ (fgR G R M 601 0 601 m (nI (t + 1)) x).1 = 0 → agn (R.1 + 1).toNatClampNeg (fitR G R L m (nI (t + 1)) s).2.2.2.2.1 (fgR G R M 601 0 601 m (nI (t + 1)) x).2.2.2) := by
  obtain ⟨n1, n2, n3⟩ := n1_b hR.1.1 hR.1.2
  intro m
  induction m with
  | zero => intro t s x _ h; exact ⟨rfl, fun _ => h.1.2.2⟩
  | succ m ih =>
    intro t s x ht h
    have a := (AR_n hR hL (by omega) h).1
    have p0 : (advF R L s).1 0 = (tkG R M 601 0 601 (nI (t + 1)) x).1 0 := a.1.1 0 (by omega)
    have pn : (advF R L s).1 R.1.toNatClampNeg = (tkG R M 601 0 601 (nI (t + 1)) x).1 R.1.toNatClampNeg := a.1.1 _ (by omega)
    have e := ag_nr (T := G.1) (t := nI (t + 1)) (off := G.2.2.2.2) hF hB (a.2.1.1 0 (by omega)) (a.2.1.1 R.1.toNatClampNeg (by omega))
    simp only [fitR, fgR]
    rw [p0, pn, e]
    by_cases q : nrF G.1 G.2.1 G.2.2.1 G.2.2.2.1 (nI (t + 1)) G.2.2.2.2 ((tkG R M 601 0 601 (nI (t + 1)) x).1 0) ((tkG R M 601 0 601 (nI (t + 1)) x).1 R.1.toNatClampNeg) = 0
    · rw [if_pos q, if_pos q]
      exact ⟨rfl, fun z => absurd rfl z⟩
    · rw [if_neg q, if_neg q, nI_1]
      exact ih (t + 1) (by omega) a
theorem fitV_e {G : GG} {R : RK} {L M : LV} {gt hot : Int32} (hR : RB R) (hL : LJ L M) (hF : gaB G.2.1 G.2.2.2.1) (hB : gaB G.2.2.1 G.2.2.2.1) (hg : 0 ≤ gt ∧ gt ≤ 400) : fitV G R L gt hot = fgC G R M gt hot := by
  have g4 : gt.toNatClampNeg ≤ 400 := (cl_le hg.1 (show (0 : Int32) ≤ 400 by decide)).mpr hg.2
  obtain ⟨a, b⟩ := fit_e hR hL hF hB gt.toNatClampNeg 0 (by omega) (AR_st hR hL)
  have a : (fitR G R L gt.toNatClampNeg 1 (st0 R.2.1)).1 = (fgR G R M 601 0 601 gt.toNatClampNeg 1 (c0G R)).1 := a
  have b : ¬ (fgR G R M 601 0 601 gt.toNatClampNeg 1 (c0G R)).1 = 0 → agn (R.1 + 1).toNatClampNeg (fitR G R L gt.toNatClampNeg 1 (st0 R.2.1)).2.2.2.2.1 (fgR G R M 601 0 601 gt.toNatClampNeg 1 (c0G R)).2.2.2 := b
  simp only [fitV, fgC, fitE, fgE]
  rw [a]
  by_cases q : (fgR G R M 601 0 601 gt.toNatClampNeg 1 (c0G R)).1 = 0
  · rw [if_neg (fun z => z.1 q), if_neg (fun z => z.1 q)]
  · rw [hotR_agn (b q)]
/-- guesses kept, both sides -/
def fJ (s r : Row × Int32) : Prop := s.2 = r.2 ∧ ∀ k, k < r.2.toNatClampNeg → s.1 k = r.1 k
theorem fJ_try {P Q : Int32 → Int32} {g : Int32} {s r : Row × Int32} (e : P g = Q g) (h : fJ s r) (hb : 0 ≤ r.2 ∧ r.2 < 113) : fJ (tryF P g s) (tryG Q g r) := by
  obtain ⟨h1, h2⟩ := h
  simp only [tryF, tryG]
  rw [h1, e]
  by_cases q : Q g ≠ 0
  · rw [if_pos ⟨q, hb.2⟩, if_pos q]
    refine ⟨rfl, fun k hk => ?_⟩
    have hk : k < (r.2 + 1).toNatClampNeg := hk
    rw [cl_succ hb.1 (by grind)] at hk
    show upd s.1 r.2.toNatClampNeg g k = upd r.1 r.2.toNatClampNeg g k
    by_cases z : k = r.2.toNatClampNeg
    · rw [z, upd_s, upd_s]
    · rw [upd_n _ _ z, upd_n _ _ z]; exact h2 k (by omega)
  · rw [if_neg (fun z => q z.1), if_neg q]
    exact ⟨h1, h2⟩
theorem nI_10 (c : Nat) : 10 * nI c = nI (10 * c) := by
  induction c with
  | zero => rfl
  | succ c ih =>
    have : nI (10 * (c + 1)) = nI (10 * c) + nI 10 := by rw [nI_add]; rfl
    rw [this, ← ih, ← nI_1]
    have k : nI 10 = 10 := rfl
    rw [k]; grind
theorem fr_b {Q : Int32 → Int32} {f : Row} {n : Int32} (h1 : 1 ≤ n) (h2 : n ≤ 16) {g : Nat} (hg : g < 10 * n.toNatClampNeg + 7) : 0 ≤ (frR Q f g).2 ∧ (frR Q f g).2 < 113 := by
  obtain ⟨e1, e2, e3⟩ := n1_b h1 h2
  obtain ⟨m, e, h⟩ := frR_b Q f g
  rw [e]
  refine ⟨nI_le (a := 0) (Nat.zero_le _) (by omega), (nI_ltq (b := 113) (by omega) (by omega)).mpr (by omega)⟩
theorem fr_sk {Q : Int32 → Int32} {f : Row} {g : Nat} (h : skG g) : frR Q f (g + 1) = frR Q f g := by simp only [frR]; rw [if_pos h]
theorem fr_no {Q : Int32 → Int32} {f : Row} {g : Nat} (h : ¬ skG g) : frR Q f (g + 1) = tryG Q (nI g) (frR Q f g) := by simp only [frR]; rw [if_neg h]
theorem ffI_e {P Q : Int32 → Int32} {f : Row} {n : Int32} {c : Nat} {s : Row × Int32} (h1 : 1 ≤ n) (h2 : n ≤ 16) (hc : 1 ≤ c ∧ c ≤ n.toNatClampNeg) (e : ∀ k, k < 7 → P (10 * nI c + nI k) = Q (10 * nI c + nI k)) (h : fJ s (frR Q f (10 * c))) : ∀ k, k ≤ 7 → fJ (ffI P (nI c) s k) (frR Q f (10 * c + k)) := by
  intro k
  induction k with
  | zero => intro _; exact h
  | succ k ih =>
    intro hk
    have a := ih (by omega)
    have ns : ¬ skG (10 * c + k) := by simp only [skG]; omega
    show fJ (tryF P (10 * nI c + nI k) (ffI P (nI c) s k)) (frR Q f (10 * c + k + 1))
    rw [fr_no ns]
    have en : nI (10 * c + k) = 10 * nI c + nI k := by rw [nI_10, nI_add]
    rw [en]
    exact fJ_try (e k (by omega)) a (fr_b h1 h2 (by omega))
theorem ffO_e {P Q : Int32 → Int32} {f f2 : Row} {n : Int32} (h1 : 1 ≤ n) (h2 : n ≤ 16) (e0 : P 0 = Q 0) (e : ∀ c, 1 ≤ c → c ≤ n.toNatClampNeg → ∀ k, k < 7 → P (10 * nI c + nI k) = Q (10 * nI c + nI k)) : ∀ c, c ≤ n.toNatClampNeg → fJ (ffO P f c) (frR Q f2 (10 * c + 7)) := by
  intro c
  induction c with
  | zero =>
    intro _
    have s : ∀ g, 1 ≤ g → g ≤ 6 → skG g := by intro g a b; simp only [skG]; omega
    show fJ (tryF P 0 (f, 0)) (frR Q f2 (6 + 1))
    rw [fr_sk (s 6 (by omega) (by omega)), fr_sk (g := 5) (s 5 (by omega) (by omega)), fr_sk (g := 4) (s 4 (by omega) (by omega)), fr_sk (g := 3) (s 3 (by omega) (by omega)), fr_sk (g := 2) (s 2 (by omega) (by omega)), fr_sk (g := 1) (s 1 (by omega) (by omega)), fr_no (g := 0) (by simp only [skG]; omega)]
    refine fJ_try e0 ⟨rfl, fun k hk => absurd hk (Nat.not_lt_zero _)⟩ ⟨?_, ?_⟩
    · show (0 : Int32) ≤ 0; decide
    · show (0 : Int32) < 113; decide
  | succ c ih =>
    intro hc
    have a := ih (by omega)
    have b : fJ (ffO P f c) (frR Q f2 (10 * (c + 1))) := by
      rw [show 10 * (c + 1) = 10 * c + 9 + 1 by omega, fr_sk (by simp only [skG]; omega), show 10 * c + 9 = 10 * c + 8 + 1 by omega, fr_sk (by simp only [skG]; omega), show 10 * c + 8 = 10 * c + 7 + 1 by omega, fr_sk (by simp only [skG]; omega)]
      exact a
    exact ffI_e h1 h2 ⟨by omega, hc⟩ (e (c + 1) (by omega) hc) b 7 (Nat.le_refl _)
/-- every guess kept is one -/
theorem fr_in (Q : Int32 → Int32) (f : Row) : ∀ g, g < 1000 → ∃ m : Nat, (frR Q f g).2 = nI m ∧ m ≤ g ∧ ∀ k, k < m → ∃ j, j < g ∧ ¬ skG j ∧ (frR Q f g).1 k = nI j := by
  intro g
  induction g with
  | zero => intro _; exact ⟨0, rfl, Nat.le_refl _, fun k hk => absurd hk (Nat.not_lt_zero _)⟩
  | succ g ih =>
    intro hg
    obtain ⟨m, e1, e2, e3⟩ := ih (by omega)
    by_cases s : skG g
    · rw [fr_sk s]
      exact ⟨m, e1, by omega, fun k hk => by obtain ⟨j, a, b, c⟩ := e3 k hk; exact ⟨j, by omega, b, c⟩⟩
    · rw [fr_no s]
      simp only [tryG]
      by_cases q : Q (nI g) ≠ 0
      · rw [if_pos q]
        refine ⟨m + 1, by show (frR Q f g).2 + 1 = _; rw [e1, nI_1], by omega, fun k hk => ?_⟩
        show ∃ j, j < g + 1 ∧ ¬ skG j ∧ upd (frR Q f g).1 (frR Q f g).2.toNatClampNeg (nI g) k = nI j
        rw [e1, nI_clamp (by omega)]
        by_cases z : k = m
        · subst z; exact ⟨g, by omega, s, upd_s _ _ _⟩
        · rw [upd_n _ _ z]
          obtain ⟨j, a, b, c⟩ := e3 k (by omega)
          exact ⟨j, by omega, b, c⟩
      · rw [if_neg q]
        exact ⟨m, e1, by omega, fun k hk => by obtain ⟨j, a, b, c⟩ := e3 k hk; exact ⟨j, by omega, b, c⟩⟩
abbrev gOK (n g : Int32) : Prop := g = 0 ∨ (1 ≤ g / 10 ∧ g / 10 ≤ n) ∧ 0 ≤ gm g ∧ gm g ≤ 6
theorem fr_ok {Q : Int32 → Int32} {f : Row} {n : Int32} (h1 : 1 ≤ n) (h2 : n ≤ 16) : (0 ≤ (frR Q f (10 * n + 7).toNatClampNeg).2 ∧ (frR Q f (10 * n + 7).toNatClampNeg).2 ≤ 113) ∧ ∀ k, k < ((frR Q f (10 * n + 7).toNatClampNeg).2).toNatClampNeg → gOK n ((frR Q f (10 * n + 7).toNatClampNeg).1 k) := by
  obtain ⟨e1, e2, e3⟩ := n1_b h1 h2
  have eg : (10 * n + 7).toNatClampNeg = 10 * n.toNatClampNeg + 7 := cl_ten (by grind) (by grind) (by decide) (by decide)
  rw [eg]
  obtain ⟨m, a, b, c⟩ := fr_in Q f (10 * n.toNatClampNeg + 7) (by omega)
  obtain ⟨m2, a2, b2⟩ := frR_b Q f (10 * n.toNatClampNeg + 7)
  have em : m = m2 := nI_inj (by omega) (by omega) (a.symm.trans a2)
  subst em
  rw [a]
  refine ⟨⟨nI_le (a := 0) (Nat.zero_le _) (by omega), nI_le (b := 113) (by omega) (by omega)⟩, fun k hk => ?_⟩
  rw [nI_clamp (by omega)] at hk
  obtain ⟨j, j1, j2, j3⟩ := c k hk
  rw [j3]
  refine sk_hg (nI_le (a := 0) (Nat.zero_le _) (by omega)) h1 h2 ?_ (by rw [nI_clamp (by omega)]; exact j2)
  have e7 : 10 * n + 7 = nI (10 * n.toNatClampNeg + 7) := by rw [← nI_cl (c := n) (by grind), nI_10, nI_clamp (by omega)]; exact nI_add _ 7
  rw [e7]
  exact (nI_ltq (by omega) (by omega)).mpr j1
