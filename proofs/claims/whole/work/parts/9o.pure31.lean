abbrev SRW : List (Nat × Nat) := [(46, 0), (47, 0), (48, 0), (49, 0), (50, 0), (51, 0), (52, 0), (53, 0), (54, 0), (55, 0), (64, 0), (1098, 0), (1099, 0), (1100, 0), (1101, 0), (1103, 0), (1104, 0), (1105, 0)]
/-! the reference: walks -/
def B16 (x : Int32) : Prop := ∃ m : Nat, m < 65536 ∧ x = nI m
theorem nI_or (a b : Nat) : nI a ||| nI b = nI (a ||| b) := by
  apply Int32.toBitVec_inj.mp
  apply BitVec.eq_of_toNat_eq
  show (BitVec.ofNat 32 a ||| BitVec.ofNat 32 b).toNat = (BitVec.ofNat 32 (a ||| b)).toNat
  simp only [BitVec.toNat_or, BitVec.toNat_ofNat]
  rw [Nat.or_mod_two_pow]
theorem nI_xor (a b : Nat) : nI a ^^^ nI b = nI (a ^^^ b) := by
  apply Int32.toBitVec_inj.mp
  apply BitVec.eq_of_toNat_eq
  show (BitVec.ofNat 32 a ^^^ BitVec.ofNat 32 b).toNat = (BitVec.ofNat 32 (a ^^^ b)).toNat
  simp only [BitVec.toNat_xor, BitVec.toNat_ofNat]
  rw [Nat.xor_mod_two_pow]
theorem B16_or {x y : Int32} (h : B16 x) (h2 : B16 y) : B16 (x ||| y) := by
  obtain ⟨a, ha, rfl⟩ := h
  obtain ⟨b, hb, rfl⟩ := h2
  exact ⟨a ||| b, Nat.or_lt_two_pow (n := 16) ha hb, nI_or a b⟩
theorem B16_xor {x y : Int32} (h : B16 x) (h2 : B16 y) : B16 (x ^^^ y) := by
  obtain ⟨a, ha, rfl⟩ := h
  obtain ⟨b, hb, rfl⟩ := h2
  exact ⟨a ^^^ b, Nat.xor_lt_two_pow (n := 16) ha hb, nI_xor a b⟩
theorem B16_b {x : Int32} (h : B16 x) : 0 ≤ x ∧ x ≤ 65535 := by
  obtain ⟨a, ha, rfl⟩ := h
  exact ⟨nI_le (a := 0) (Nat.zero_le _) (by omega), nI_le (b := 65535) (by omega) (by decide)⟩
theorem sh16 : ∀ k : Nat, k < 16 → (1 : Int32) <<< (nI k &&& 31) = nI (2 ^ k) := by decide +kernel
theorem hotR_B16 (c : Row) : ∀ n : Nat, n ≤ 17 → B16 (hotR c n) := by
  intro n
  induction n with
  | zero => intro _; exact ⟨0, by omega, rfl⟩
  | succ n ih =>
    intro hn
    by_cases q : n = 0
    · subst q; exact ⟨0, by omega, rfl⟩
    · obtain ⟨d, rfl⟩ : ∃ d, n = d + 1 := ⟨n - 1, by omega⟩
      simp only [hotR]
      split
      · refine B16_or (ih (by omega)) ⟨2 ^ d, ?_, sh16 d (by omega)⟩
        exact Nat.pow_lt_pow_right (by omega) (show d < 16 by omega)
      · exact ih (by omega)
theorem usR_B16 (h : Row) : ∀ n : Nat, (∀ k, k < n → B16 (h k)) → B16 (usR h n) := by
  intro n
  induction n with
  | zero => intro _; exact ⟨0, by omega, rfl⟩
  | succ n ih =>
    intro hb
    by_cases q : 1 ≤ n
    · rw [usR_s _ q]
      exact B16_or (ih (fun k hk => hb k (by omega))) (B16_xor (hb n (by omega)) (hb 0 (by omega)))
    · have : n = 0 := by omega
      subst this; exact ⟨0, by omega, rfl⟩
def hoG (R : RK) (L : LV) (t g : Int32) : Int32 := hotR (plG (bndK R g) L 601 0 601 t.toNatClampNeg 1 (c0G R)).2.2 (R.1 + 1).toNatClampNeg
def hoR (f : Row) (h : Nat → Int32) (n : Nat) : Row := fun k => if k < n then h k else f k
theorem hoR_0 (f : Row) (h : Nat → Int32) : hoR f h 0 = f := by funext k; simp only [hoR]; rw [if_neg (Nat.not_lt_zero _)]
theorem hoR_s (f : Row) (h : Nat → Int32) (n : Nat) : upd (hoR f h n) n (h n) = hoR f h (n + 1) := by
  funext k
  by_cases q : k = n
  · subst q; rw [upd_s]; simp only [hoR]; rw [if_pos (by omega)]
  · rw [upd_n _ _ q]; simp only [hoR]
    by_cases z : k < n
    · rw [if_pos z, if_pos (by omega)]
    · rw [if_neg z, if_neg (by omega)]
def prI (h : Row) (i : Nat) : Nat → Int32
  | 0 => 0
  | j + 1 => if h i = h j then prI h i j + 1 else prI h i j
def prO (h : Row) : Nat → Int32
  | 0 => 0
  | i + 1 => prO h i + prI h i i
def fnR (pa : Int32 → Int32) (u : Int32) : Nat → Int32 → Int32 → Int32
  | 0, _, f => f
  | n + 1, s, f => fnR pa u n (s + 1) (if s &&& (u ^^^ (-1)) = 0 ∧ (bits s < bits f ∨ bits s = bits f ∧ s < f) ∧ pa s ≠ 0 then s else f)
theorem plG_re {R S : RK} (h : RE R S) (L : LV) (df pa pf : Int32) : ∀ (m : Nat) (t : Int32) (x : PTC), plG R L df pa pf m t x = plG S L df pa pf m t x := by
  intro m
  induction m with
  | zero => intro t x; rfl
  | succ m ih => intro t x; simp only [plG, tkG_re h, ih]
theorem plG_pa {R : RK} (h1 : 1 ≤ R.1) (h2 : R.1 ≤ 16) (L : LV) (df pa pf : Int32) : ∀ (m : Nat) (t : Int32) {x y : PTC}, PA (R.1 + 1).toNatClampNeg x y → PA (R.1 + 1).toNatClampNeg (plG R L df pa pf m t x) (plG R L df pa pf m t y) := by
  intro m
  induction m with
  | zero => intro t x y h; exact h
  | succ m ih => intro t x y h; exact ih _ (tkG_pa h1 h2 L df pa pf t h)
theorem hoG_e {R S : RK} {g : Int32} (h1 : 1 ≤ R.1) (h2 : R.1 ≤ 16) (h : RE R (bndK S g)) (L : LV) (t : Int32) (p tt c : Row) : hotR (plG R L 601 0 601 t.toNatClampNeg 1 (bgG R p tt c)).2.2 (R.1 + 1).toNatClampNeg = hoG S L t g := by
  have a := plG_pa h1 h2 L 601 0 601 t.toNatClampNeg 1 (bgG_pa R p tt c)
  rw [hotR_agn a.2.2, plG_re h]
  have e : c0G R = c0G S := by simp only [c0G]; rw [h.2.1]; rfl
  simp only [hoG]
  rw [e, h.1]; rfl
