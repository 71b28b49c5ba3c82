abbrev SC7 : List (Nat × Nat) := [(21, 0), (22, 0), (23, 0), (267, 0), (268, 0)]
/-! guesses -/
theorem clz {x : Int32} (h : x ≤ 0) : x.toNatClampNeg = 0 := by
  show x.toInt.toNat = 0
  rw [le_toInt] at h
  have k0 : (0 : Int32).toInt = 0 := rfl
  omega
def pairF (f : Row) (p : Nat) : Int32 := f p * 256 + f (p + 1)
theorem cl_six {i c : Int32} (h0 : 0 ≤ i) (h1 : i < 1000) (h2 : 0 ≤ c) (h3 : c < 1000) : (i * 6 + c).toNatClampNeg = 6 * i.toNatClampNeg + c.toNatClampNeg := by
  rw [cl_add (by grind) h2 (by grind) (by grind), show i * 6 = i + i + i + (i + i + i) by grind, cl_add (by grind) (by grind) (by grind) (by grind), cl_add (by grind) (by grind) (by grind) (by grind), cl_add (by grind) (by grind) (by grind) (by grind)]
  omega
theorem cl_ten {i c : Int32} (h0 : 0 ≤ i) (h1 : i < 1000) (h2 : 0 ≤ c) (h3 : c < 1000) : (10 * i + c).toNatClampNeg = 10 * i.toNatClampNeg + c.toNatClampNeg := by
  rw [cl_add (by grind) h2 (by grind) (by grind), show 10 * i = i + i + i + i + i + (i + i + i + i + i) by grind, cl_add (by grind) (by grind) (by grind) (by grind), cl_add (by grind) (by grind) (by grind) (by grind), cl_add (by grind) (by grind) (by grind) (by grind), cl_add (by grind) (by grind) (by grind) (by grind), cl_add (by grind) (by grind) (by grind) (by grind)]
  omega
/-- ticks of gauges in their bounds: fuel, place -/
def gOk (f : Row) : Nat → Nat → Int32
  | 0, _ => 1
  | n + 1, i => if pairF f (6 * i) < 1 ∨ 400 < pairF f (6 * i) then 0 else gOk f n (i + 1)
def gMx (f : Row) : Nat → Int32
  | 0 => 0
  | k + 1 => if gMx f k < pairF f (6 * k) then pairF f (6 * k) else gMx f k
theorem gOk_01 (f : Row) (n : Nat) : ∀ i, gOk f n i = 0 ∨ gOk f n i = 1 := by
  induction n with
  | zero => intro i; exact Or.inr rfl
  | succ n ih => intro i; simp only [gOk]; split; exact Or.inl rfl; exact ih _
/-- a train bent by a guess -/
def gm (g : Int32) : Int32 := g - g / 10 * 10
def bndL (f : Row) (g : Int32) : Row := if g ≠ 0 ∧ (gm g = 0 ∨ gm g = 1 ∨ gm g = 2) then upd f (g / 10).toNatClampNeg (if gm g = 0 then 10 else if gm g = 1 then 20 else 40) else f
def bndH (f : Row) (g : Int32) : Row := if g ≠ 0 ∧ (gm g = 3 ∨ gm g = 4) then upd f (g / 10).toNatClampNeg (if gm g = 3 then 10 else 30) else f
def bndS (f : Row) (g : Int32) : Row := if g ≠ 0 ∧ ¬ (gm g = 0 ∨ gm g = 1 ∨ gm g = 2) ∧ ¬ (gm g = 3 ∨ gm g = 4) then upd f (g / 10).toNatClampNeg (if gm g = 5 then 1 else 2) else f
def bndK (T : RK) (g : Int32) : RK := (T.1, T.2.1, T.2.2.1, T.2.2.2.1, T.2.2.2.2.1, T.2.2.2.2.2.1, bndL T.2.2.2.2.2.2.1 g, bndH T.2.2.2.2.2.2.2.1 g, bndS T.2.2.2.2.2.2.2.2 g)
theorem upd_re {n : Int32} {f f2 : Row} (h : re n f f2) (i : Nat) (x : Int32) : re n (upd f i x) (upd f2 i x) := by
  intro k h1 h2
  by_cases q : k = i
  · subst q; rw [upd_s, upd_s]
  · rw [upd_n _ _ q, upd_n _ _ q]; exact h k h1 h2
theorem bndL_re {n : Int32} {f f2 : Row} (h : re n f f2) (g : Int32) : re n (bndL f g) (bndL f2 g) := by
  simp only [bndL]; split
  · exact upd_re h _ _
  · exact h
theorem bndH_re {n : Int32} {f f2 : Row} (h : re n f f2) (g : Int32) : re n (bndH f g) (bndH f2 g) := by
  simp only [bndH]; split
  · exact upd_re h _ _
  · exact h
theorem bndS_re {n : Int32} {f f2 : Row} (h : re n f f2) (g : Int32) : re n (bndS f g) (bndS f2 g) := by
  simp only [bndS]; split
  · exact upd_re h _ _
  · exact h
theorem bndK_re {R S : RK} (h : RE R S) (g : Int32) : RE (bndK R g) (bndK S g) := by
  obtain ⟨e1, e2, e3, hk, ho, he, hl, hs, hu⟩ := h
  exact ⟨e1, e2, e3, hk, ho, he, bndL_re hl g, bndH_re hs g, bndS_re hu g⟩
/-- do the gauges of a tick agree -/
def ab (x : Int32) : Int32 := if 0 ≤ x then x else 0 - x
def agF (T F B : Row) (n : Nat) (t off fr bk : Int32) : Int32 := if ∀ k, k < n → T k = t → ab (F k - fr) ≤ off ∧ ab (B k - bk) ≤ off then 1 else 0
/-- gauges: ticks, front, back, how many, off -/
abbrev GG : Type := Row × Row × Row × Nat × Int32
def fitR (G : GG) (R : RK) (L : LV) : Nat → Int32 → AS → Int32 × AS
  | 0, _, S => (1, S)
  | m + 1, t, S => if agF G.1 G.2.1 G.2.2.1 G.2.2.2.1 t G.2.2.2.2 ((advF R L S).1 0) ((advF R L S).1 R.1.toNatClampNeg) = 0 then (0, S) else fitR G R L m (t + 1) (advF R L S)
def fitE (R : RK) (hot : Int32) (q : Int32 × AS) : Int32 := if q.1 ≠ 0 ∧ (hot = (-1) ∨ hotR q.2.2.2.2.1 (R.1 + 1).toNatClampNeg = hot) then 1 else 0
def fitV (G : GG) (R : RK) (L : LV) (gt hot : Int32) : Int32 := fitE R hot (fitR G R L gt.toNatClampNeg 1 (st0 R.2.1))
theorem hotR_ag {c c2 : Row} (h : ag c c2) : ∀ {n : Nat}, n ≤ 17 → hotR c n = hotR c2 n := by
  intro n
  induction n with
  | zero => intro _; rfl
  | succ n ih =>
    intro hn
    by_cases q : n = 0
    · subst q; rfl
    · obtain ⟨d, rfl⟩ : ∃ d, n = d + 1 := ⟨n - 1, by omega⟩
      simp only [hotR]
      rw [ih (by omega), h (d + 1) (by omega)]
theorem fitR_re {G : GG} {R S : RK} (h : RE R S) (L : LV) (m : Nat) : ∀ (t : Int32) (A : AS), fitR G R L m t A = fitR G S L m t A := by
  induction m with
  | zero => intro t A; rfl
  | succ m ih => intro t A; simp only [fitR, advF_re h, ih, h.1]
theorem fitV_re {G : GG} {R S : RK} (h : RE R S) (L : LV) (gt hot : Int32) : fitV G R L gt hot = fitV G S L gt hot := by
  simp only [fitV, fitE, fitR_re h, h.1, h.2.1]
theorem fitV_01 (G : GG) (R : RK) (L : LV) (gt hot : Int32) : fitV G R L gt hot = 0 ∨ fitV G R L gt hot = 1 := by
  simp only [fitV, fitE]; split
  · exact Or.inr rfl
  · exact Or.inl rfl
theorem adv_ae {R : RK} (h1 : 0 ≤ R.1) (h2 : R.1 ≤ 16) {L : LV} {s S : AS} (h : AE s S) : AE ((advF R L s).1, (advF R L s).2.1, (advF R L s).2.2.1, (advF R L s).2.2.2.1, (advF R L s).2.2.2.2.1, (advF R L s).2.2.2.2.2.1, s.2.2.2.2.2.2.1, s.2.2.2.2.2.2.2.1, s.2.2.2.2.2.2.2.2.1, (advF R L s).2.2.2.2.2.2.2.2.2) (advF R L S) := by
  have a := advF_ae h1 h2 L h
  rw [advF_eta R L s] at a
  exact a
theorem cl17 {n : Int32} (h1 : 0 ≤ n) (h2 : n ≤ 16) : n.toNatClampNeg < 17 := by
  have := (cl_le h1 (show (0 : Int32) ≤ 16 by decide)).mpr h2
  have e : (16 : Int32).toNatClampNeg = 16 := rfl
  omega
/-- a guess that fits is kept -/
def tryF (P : Int32 → Int32) (g : Int32) (s : Row × Int32) : Row × Int32 := if P g ≠ 0 ∧ s.2 < 113 then (upd s.1 s.2.toNatClampNeg g, s.2 + 1) else s
def ffI (P : Int32 → Int32) (c : Int32) (s : Row × Int32) : Nat → Row × Int32
  | 0 => s
  | k + 1 => tryF P (10 * c + nI k) (ffI P c s k)
def ffO (P : Int32 → Int32) (f : Row) : Nat → Row × Int32
  | 0 => tryF P 0 (f, 0)
  | c + 1 => ffI P (nI (c + 1)) (ffO P f c) 7
theorem tryF_b {P : Int32 → Int32} {g : Int32} {s : Row × Int32} (h : 0 ≤ s.2 ∧ s.2 ≤ 113) : 0 ≤ (tryF P g s).2 ∧ (tryF P g s).2 ≤ 113 := by
  simp only [tryF]; split
  · constructor
    · show 0 ≤ s.2 + 1; grind
    · show s.2 + 1 ≤ 113; grind
  · exact h
/-! walks -/
def itA (R : RK) (L : LV) : Nat → AS → AS
  | 0, S => S
  | n + 1, S => itA R L n (advF R L S)
theorem itA_re {R S : RK} (h : RE R S) (L : LV) (m : Nat) : ∀ (A : AS), itA R L m A = itA S L m A := by
  induction m with
  | zero => intro A; rfl
  | succ m ih => intro A; simp only [itA, advF_re h, ih]
def htG (T : RK) (L : LV) (tick : Int32) (g : Int32) : Int32 := hotR (itA (bndK T g) L tick.toNatClampNeg (st0 T.2.1)).2.2.2.1 (T.1 + 1).toNatClampNeg
def usR (hs : Row) : Nat → Int32
  | 0 => 0
  | 1 => 0
  | k + 2 => usR hs (k + 1) ||| (hs (k + 1) ^^^ hs 0)
theorem usR_s (hs : Row) {k : Nat} (h : 1 ≤ k) : usR hs (k + 1) = usR hs k ||| (hs k ^^^ hs 0) := by
  obtain ⟨d, rfl⟩ : ∃ d, k = d + 1 := ⟨k - 1, by omega⟩
  rfl
def paF (hs : Row) (n : Nat) (set : Int32) : Int32 := if ∀ i, i < n → ∀ j, j < i → ¬ (hs i ^^^ hs j) &&& set = 0 then 1 else 0
theorem paF_01 (hs : Row) (n : Nat) (set : Int32) : paF hs n set = 0 ∨ paF hs n set = 1 := by
  simp only [paF]; split
  · exact Or.inr rfl
  · exact Or.inl rfl
/-- the first place of a value among the first n, else n -/
def fdR (hs : Row) (x : Int32) : Nat → Nat
  | 0 => 0
  | n + 1 => if fdR hs x n < n then fdR hs x n else if hs n = x then n else n + 1
theorem fdR_le (hs : Row) (x : Int32) (n : Nat) : fdR hs x n ≤ n := by
  induction n with
  | zero => exact Nat.le_refl _
  | succ n ih => simp only [fdR]; split; omega; split <;> omega
theorem fdR_st {hs : Row} {x : Int32} {i : Nat} (h : fdR hs x i = i) (e : hs i = x) : ∀ d, fdR hs x (i + 1 + d) = i := by
  intro d
  induction d with
  | zero => simp only [fdR, Nat.add_zero]; rw [if_neg (by omega), if_pos e]
  | succ d ih => show fdR hs x ((i + 1 + d) + 1) = i; simp only [fdR]; rw [ih, if_pos (by omega)]
theorem fdR_fd {hs : Row} {x : Int32} {i n : Nat} (h : fdR hs x i = i) (e : hs i = x) (hn : i < n) : fdR hs x n = i := by
  have := fdR_st h e (n - (i + 1))
  rwa [show i + 1 + (n - (i + 1)) = n by omega] at this
theorem fdR_go {hs : Row} {x : Int32} {i : Nat} (h : fdR hs x i = i) (e : ¬ hs i = x) : fdR hs x (i + 1) = i + 1 := by
  simp only [fdR]; rw [if_neg (by omega), if_neg e]
/-- sets, times, how many, unparted -/
abbrev HS : Type := Row × Row × Int32 × Int32
def ahF (s : HS) (x : Int32) : HS := if fdR s.1 x s.2.2.1.toNatClampNeg < s.2.2.1.toNatClampNeg then (s.1, upd s.2.1 (fdR s.1 x s.2.2.1.toNatClampNeg) (s.2.1 (fdR s.1 x s.2.2.1.toNatClampNeg) + 1), s.2.2.1, s.2.2.2 + s.2.1 (fdR s.1 x s.2.2.1.toNatClampNeg)) else (upd s.1 s.2.2.1.toNatClampNeg x, upd s.2.1 s.2.2.1.toNatClampNeg 1, s.2.2.1 + 1, s.2.2.2)
theorem ahF_in {s : HS} {x : Int32} {i : Nat} (h : fdR s.1 x s.2.2.1.toNatClampNeg = i) (h2 : i < s.2.2.1.toNatClampNeg) : ahF s x = (s.1, upd s.2.1 i (s.2.1 i + 1), s.2.2.1, s.2.2.2 + s.2.1 i) := by
  simp only [ahF]; rw [h, if_pos h2]
theorem ahF_out {s : HS} {x : Int32} (h : fdR s.1 x s.2.2.1.toNatClampNeg = s.2.2.1.toNatClampNeg) : ahF s x = (upd s.1 s.2.2.1.toNatClampNeg x, upd s.2.1 s.2.2.1.toNatClampNeg 1, s.2.2.1 + 1, s.2.2.2) := by
  simp only [ahF]; rw [h, if_neg (Nat.lt_irrefl _)]
def wkR (hg : Int32 → Int32) (fit : Row) (s : HS) : Nat → HS
  | 0 => s
  | k + 1 => ahF (wkR hg fit s k) (hg (fit k))
theorem ahF_b {s : HS} {x k : Int32} (h : 0 ≤ s.2.2.1 ∧ s.2.2.1 ≤ k) (hk : k < 1000) : 0 ≤ (ahF s x).2.2.1 ∧ (ahF s x).2.2.1 ≤ k + 1 := by
  simp only [ahF]; split
  · exact ⟨h.1, by show s.2.2.1 ≤ k + 1; grind⟩
  · constructor
    · show 0 ≤ s.2.2.1 + 1; grind
    · show s.2.2.1 + 1 ≤ k + 1; grind
/-- the least walk: fuel, set, best -/
def lwR (pa : Int32 → Int32) (u : Int32) : Nat → Int32 → Int32 → Int32
  | 0, _, b => b
  | n + 1, s, b => lwR pa u n (s + 1) (if bcF s < bcF b ∧ s &&& (u ^^^ (-1)) = 0 ∧ pa s ≠ 0 then s else b)
