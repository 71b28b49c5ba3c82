abbrev SC8 : List (Nat × Nat) := [(13, 3), (14, 3), (15, 3), (16, 3), (104, 3), (105, 3), (106, 3), (107, 3), (108, 3), (109, 3)]
abbrev SC9 : List (Nat × Nat) := [(13, 3), (14, 3), (15, 3), (16, 3), (30, 3), (31, 3), (32, 3), (33, 3), (34, 3), (35, 3), (36, 3), (104, 3), (105, 3), (106, 3), (107, 3), (108, 3), (109, 3), (500, 3), (501, 3), (502, 3)]
theorem pair_at {f : Row} {p sz : Int32} (h0 : 0 ≤ p) (h1 : p + 1 < sz) (h2 : p < 10000) : (if 0 ≤ p ∧ p < sz then f p.toNatClampNeg else (-1)) * 256 + (if 0 ≤ p + 1 ∧ p + 1 < sz then f (p + 1).toNatClampNeg else (-1)) = pairF f p.toNatClampNeg := by
  rw [if_pos ⟨h0, by grind⟩, if_pos ⟨by grind, h1⟩, cl_succ h0 (by grind)]; rfl
theorem cl_six0 {i : Int32} (h0 : 0 ≤ i) (h1 : i < 1000) : (i * 6).toNatClampNeg = 6 * i.toNatClampNeg := by
  have := cl_six (c := 0) h0 h1 (by decide) (by decide)
  rwa [show i * 6 + 0 = i * 6 by grind] at this
abbrev tA (U : Wi) (i : Nat) : AS := (U 13 i, U 14 i, U 15 i, U 16 i, U 104 i 0, U 105 i 0, U 106 i 0, U 107 i 0, U 108 i 0, U 109 i 0)
abbrev tR (U : Wi) (i : Nat) : RK := (U 500 i 0, U 501 i 0, U 502 i 0, U 30 i, U 32 i, U 33 i, U 34 i, U 35 i, U 36 i)
theorem div_ten {c k : Int32} (h1 : 0 ≤ c) (h2 : c < 1000) (h3 : 0 ≤ k) (h4 : k < 10) : (10 * c + k) / 10 = c := by
  have e : (10 * c + k).toInt = 10 * c.toInt + k.toInt := by
    rw [le_toInt] at h1 h3
    rw [in_toInt] at h2 h4
    have k0 : (0 : Int32).toInt = 0 := rfl
    have k1 : (1000 : Int32).toInt = 1000 := rfl
    have k2 : (10 : Int32).toInt = 10 := rfl
    rw [Int32.toInt_add, Int32.toInt_mul, k2]
    rw [Int.bmod_eq_of_le (n := 10 * c.toInt) (by omega) (by omega), Int.bmod_eq_of_le (by omega) (by omega)]
  apply Int32.toInt_inj.mp
  rw [Int32.toInt_div_of_ne_right _ _ (by decide), e]
  rw [le_toInt] at h1 h3
  rw [in_toInt] at h2 h4
  have k0 : (0 : Int32).toInt = 0 := rfl
  have k2 : (10 : Int32).toInt = 10 := rfl
  rw [k2, Int.tdiv_eq_ediv_of_nonneg (by omega)]
  omega
theorem cp_RE {sz full feed : Int32} {k1 k o1 o e1 e l1 l h1 h s1 s : Row} : RE (sz, full, feed, cpR k1 k (sz + 1).toNatClampNeg, cpR o1 o (sz + 1).toNatClampNeg, cpR e1 e (sz + 1).toNatClampNeg, cpR l1 l (sz + 1).toNatClampNeg, cpR h1 h (sz + 1).toNatClampNeg, cpR s1 s (sz + 1).toNatClampNeg) (sz, full, feed, k, o, e, l, h, s) := by
  simp only [RE]
  exact ⟨trivial, trivial, trivial, cpR_re1 _ _ _, cpR_re1 _ _ _, cpR_re1 _ _ _, cpR_re1 _ _ _, cpR_re1 _ _ _, cpR_re1 _ _ _⟩
