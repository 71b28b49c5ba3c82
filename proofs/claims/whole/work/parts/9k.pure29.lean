/-! the reference: gauges -/
def mxR (T : Row) : Nat → Int32
  | 0 => 0
  | k + 1 => if mxR T k < T k then T k else mxR T k
theorem mxR_0 (T : Row) (n : Nat) : 0 ≤ mxR T n := by
  induction n with
  | zero => exact Int32.le_refl _
  | succ n ih => simp only [mxR]; split; grind; exact ih
def nrF (T F B : Row) (n : Nat) (t off fr bk : Int32) : Int32 := if ∀ k, k < n → T k = t → (fr - F k ≤ off ∧ F k - fr ≤ off) ∧ (bk - B k ≤ off ∧ B k - bk ≤ off) then 1 else 0
def fgR (G : GG) (R : RK) (L : LV) (df pa pf : Int32) : Nat → Int32 → PTC → Int32 × PTC
  | 0, _, x => (1, x)
  | m + 1, t, x => if nrF G.1 G.2.1 G.2.2.1 G.2.2.2.1 t G.2.2.2.2 ((tkG R L df pa pf t x).1 0) ((tkG R L df pa pf t x).1 R.1.toNatClampNeg) = 0 then (0, tkG R L df pa pf t x) else fgR G R L df pa pf m (t + 1) (tkG R L df pa pf t x)
def fgE (R : RK) (hot : Int32) (q : Int32 × PTC) : Int32 := if q.1 ≠ 0 ∧ (hot = (-1) ∨ hotR q.2.2.2 (R.1 + 1).toNatClampNeg = hot) then 1 else 0
def fgC (G : GG) (R : RK) (L : LV) (gt hot : Int32) : Int32 := fgE R hot (fgR G R L 601 0 601 gt.toNatClampNeg 1 (c0G R))
theorem nrF_cg {T F B T2 F2 B2 : Row} {n : Nat} (h : ∀ k, k < n → T k = T2 k ∧ F k = F2 k ∧ B k = B2 k) (t off fr bk : Int32) : nrF T F B n t off fr bk = nrF T2 F2 B2 n t off fr bk := by
  have e : (∀ k, k < n → T k = t → (fr - F k ≤ off ∧ F k - fr ≤ off) ∧ (bk - B k ≤ off ∧ B k - bk ≤ off)) ↔ (∀ k, k < n → T2 k = t → (fr - F2 k ≤ off ∧ F2 k - fr ≤ off) ∧ (bk - B2 k ≤ off ∧ B2 k - bk ≤ off)) := by
    constructor
    · intro q k hk e2
      obtain ⟨a, b, c⟩ := h k hk
      rw [← b, ← c]; exact q k hk (by rw [a]; exact e2)
    · intro q k hk e2
      obtain ⟨a, b, c⟩ := h k hk
      rw [b, c]; exact q k hk (by rw [← a]; exact e2)
  simp only [nrF]
  by_cases q : ∀ k, k < n → T k = t → (fr - F k ≤ off ∧ F k - fr ≤ off) ∧ (bk - B k ≤ off ∧ B k - bk ≤ off)
  · rw [if_pos q, if_pos (e.mp q)]
  · rw [if_neg q, if_neg (fun z => q (e.mpr z))]
theorem mxR_cg {T T2 : Row} : ∀ {n : Nat}, (∀ k, k < n → T k = T2 k) → mxR T n = mxR T2 n := by
  intro n
  induction n with
  | zero => intro _; rfl
  | succ n ih => intro h; simp only [mxR]; rw [ih (fun k hk => h k (by omega)), h n (by omega)]
theorem hotR_agn {c c2 : Row} : ∀ {n : Nat}, agn n c c2 → hotR c n = hotR c2 n := by
  intro n
  induction n with
  | zero => intro _; rfl
  | succ n ih =>
    intro h
    by_cases q : n = 0
    · subst q; rfl
    · obtain ⟨d, rfl⟩ : ∃ d, n = d + 1 := ⟨n - 1, by omega⟩
      simp only [hotR]
      rw [ih (fun k hk => h k (by omega)), h (d + 1) (by omega)]
theorem fgR_pa {G : GG} {R : RK} (h1 : 1 ≤ R.1) (h2 : R.1 ≤ 16) (L : LV) (df pa pf : Int32) : ∀ (m : Nat) (t : Int32) {x y : PTC}, PA (R.1 + 1).toNatClampNeg x y → (fgR G R L df pa pf m t x).1 = (fgR G R L df pa pf m t y).1 ∧ PA (R.1 + 1).toNatClampNeg (fgR G R L df pa pf m t x).2 (fgR G R L df pa pf m t y).2 := by
  have e := cl_succ (c := R.1) (by grind) (by grind)
  intro m
  induction m with
  | zero => intro t x y h; exact ⟨rfl, h⟩
  | succ m ih =>
    intro t x y h
    have q := tkG_pa h1 h2 L df pa pf t h
    simp only [fgR]
    rw [q.1 0 (by omega), q.1 R.1.toNatClampNeg (by omega)]
    split
    · exact ⟨rfl, q⟩
    · exact ih _ q
theorem fgR_re {G : GG} {R S : RK} (h : RE R S) (L : LV) (df pa pf : Int32) : ∀ (m : Nat) (t : Int32) (x : PTC), fgR G R L df pa pf m t x = fgR G S L df pa pf m t x := by
  intro m
  induction m with
  | zero => intro t x; rfl
  | succ m ih => intro t x; simp only [fgR, tkG_re h, ih, h.1]
theorem fgC_e {G : GG} {R S : RK} (h1 : 1 ≤ R.1) (h2 : R.1 ≤ 16) (h : RE R S) (L : LV) (gt hot : Int32) (p t c : Row) : fgE R hot (fgR G R L 601 0 601 gt.toNatClampNeg 1 (bgG R p t c)) = fgC G S L gt hot := by
  have a := fgR_pa (G := G) h1 h2 L 601 0 601 gt.toNatClampNeg 1 (bgG_pa R p t c)
  simp only [fgC]
  rw [← fgR_re h, show c0G S = c0G R by simp only [c0G, h.2.1]]
  simp only [fgE]
  rw [a.1, hotR_agn a.2.2.2, h.1]
theorem fgC_cg {T F B T2 F2 B2 : Row} {n : Nat} (h : ∀ k, k < n → T k = T2 k ∧ F k = F2 k ∧ B k = B2 k) (off : Int32) (R : RK) (L : LV) (gt hot : Int32) : fgC (T, F, B, n, off) R L gt hot = fgC (T2, F2, B2, n, off) R L gt hot := by
  have e : ∀ (m : Nat) (t : Int32) (S : PTC), fgR (T, F, B, n, off) R L 601 0 601 m t S = fgR (T2, F2, B2, n, off) R L 601 0 601 m t S := by
    intro m
    induction m with
    | zero => intro t S; rfl
    | succ m ih => intro t S; simp only [fgR]; rw [nrF_cg h, ih]
  simp only [fgC, e]
/-- guesses one by one -/
abbrev skG (g : Nat) : Prop := 6 < g % 10 ∨ (0 < g ∧ g < 10)
def tryG (Q : Int32 → Int32) (g : Int32) (s : Row × Int32) : Row × Int32 := if Q g ≠ 0 then (upd s.1 s.2.toNatClampNeg g, s.2 + 1) else s
def frR (Q : Int32 → Int32) (f : Row) : Nat → Row × Int32
  | 0 => (f, 0)
  | g + 1 => if skG g then frR Q f g else tryG Q (nI g) (frR Q f g)
def fbB (g f : Nat) : Prop := f ≤ 1 ∧ f ≤ g ∨ f + 6 ≤ 7 * (g / 10) + min (g % 10) 7
theorem frR_b (Q : Int32 → Int32) (f : Row) : ∀ g : Nat, ∃ m : Nat, (frR Q f g).2 = nI m ∧ (m ≤ 1 ∧ m ≤ g ∨ 10 ≤ g ∧ m + 6 ≤ 7 * (g / 10) + min (g % 10) 7) := by
  intro g
  induction g with
  | zero => exact ⟨0, rfl, Or.inl ⟨by omega, by omega⟩⟩
  | succ g ih =>
    obtain ⟨m, e, h⟩ := ih
    simp only [frR]
    by_cases s : skG g
    · rw [if_pos s]
      refine ⟨m, e, ?_⟩
      rcases h with h | h
      · exact Or.inl ⟨h.1, by omega⟩
      · exact Or.inr ⟨by omega, by omega⟩
    · rw [if_neg s]
      simp only [skG] at s
      simp only [tryG]
      split
      · refine ⟨m + 1, by show (frR Q f g).2 + 1 = _; rw [e, nI_1], ?_⟩
        rcases h with h | h
        · by_cases z : g = 0
          · exact Or.inl ⟨by omega, by omega⟩
          · exact Or.inr ⟨by omega, by omega⟩
        · exact Or.inr ⟨by omega, by omega⟩
      · refine ⟨m, e, ?_⟩
        rcases h with h | h
        · exact Or.inl ⟨h.1, by omega⟩
        · exact Or.inr ⟨by omega, by omega⟩
theorem div10 {g : Int32} (h : 0 ≤ g) : g / 10 = nI (g.toNatClampNeg / 10) ∧ gm g = nI (g.toNatClampNeg % 10) := by
  have k2 : (10 : Int32).toInt = 10 := rfl
  have hl := Int32.toInt_lt g
  have e := cl_toInt h
  have a : g / 10 = nI (g.toNatClampNeg / 10) := by
    apply Int32.toInt_inj.mp
    rw [Int32.toInt_div_of_ne_right _ _ (by decide), k2, nI_toInt (by omega), Int.tdiv_eq_ediv_of_nonneg (by omega)]
    omega
  refine ⟨a, ?_⟩
  apply Int32.toInt_inj.mp
  have b : (g / 10 * 10).toInt = ((g.toNatClampNeg / 10 * 10 : Nat) : Int) := by
    rw [a, Int32.toInt_mul, k2, nI_toInt (by omega), Int.bmod_eq_of_le (by omega) (by omega)]
    omega
  simp only [gm]
  rw [Int32.toInt_sub, b, nI_toInt (by omega), Int.bmod_eq_of_le (by omega) (by omega)]
  omega
