abbrev SRF : List (Nat × Nat) := [(46, 0), (47, 0), (48, 0), (49, 0), (50, 0), (51, 0), (52, 0), (53, 0), (54, 0), (55, 0), (60, 0), (61, 0), (62, 0), (1098, 0), (1099, 0), (1100, 0), (1101, 0), (1103, 0), (1104, 0), (1105, 0), (1119, 0)]
theorem two_at {f : Row} {i c : Int32} (h0 : 0 ≤ i) (h1 : i < 1000) (h2 : 0 ≤ c) (h3 : c < 900) : 256 * f (6 * i + c).toNatClampNeg + f (6 * i + c + 1).toNatClampNeg = pairF f (6 * i.toNatClampNeg + c.toNatClampNeg) := by
  have e : (6 * i + c).toNatClampNeg = 6 * i.toNatClampNeg + c.toNatClampNeg := by
    rw [show 6 * i + c = i * 6 + c by grind]; exact cl_six h0 h1 h2 (by grind)
  rw [cl_succ (by grind) (by grind), e]
  simp only [pairF]
  rw [Int32.mul_comm]
theorem two_at0 {f : Row} {i : Int32} (h0 : 0 ≤ i) (h1 : i < 1000) : 256 * f (6 * i).toNatClampNeg + f (6 * i + 1).toNatClampNeg = pairF f (6 * i.toNatClampNeg) := by
  have e : (6 * i).toNatClampNeg = 6 * i.toNatClampNeg := by
    rw [show 6 * i = i * 6 by grind]; exact cl_six0 h0 h1
  rw [cl_succ (by grind) (by grind), e]
  simp only [pairF]
  rw [Int32.mul_comm]
theorem gMx_mx (f : Row) : ∀ n : Nat, mxR (gRw f 0) n = gMx f n := by
  intro n
  induction n with
  | zero => rfl
  | succ n ih => simp only [mxR, gMx]; rw [ih]; rfl
theorem sk_gt {g : Int32} (h : 0 ≤ g) : (6 < g - g / 10 * 10) ↔ 6 < g.toNatClampNeg % 10 := by
  have e := (div10 h).2
  simp only [gm] at e
  rw [e, in_toInt, nI_toInt (by omega)]
  have k : (6 : Int32).toInt = 6 := rfl
  rw [k]; omega
theorem sk_hg {g n : Int32} (h0 : 0 ≤ g) (hn : 1 ≤ n) (hn2 : n ≤ 16) (hg : g < 10 * n + 7) (hs : ¬ skG g.toNatClampNeg) : g = 0 ∨ (1 ≤ g / 10 ∧ g / 10 ≤ n) ∧ 0 ≤ gm g ∧ gm g ≤ 6 := by
  by_cases z : g = 0
  · exact Or.inl z
  · obtain ⟨a, b⟩ := div10 h0
    have e := cl_toInt h0
    rw [le_toInt] at h0 hn hn2
    rw [in_toInt] at hg
    have k0 : (0 : Int32).toInt = 0 := rfl
    have k1 : (1 : Int32).toInt = 1 := rfl
    have k2 : (16 : Int32).toInt = 16 := rfl
    have k3 : (10 : Int32).toInt = 10 := rfl
    have k4 : (7 : Int32).toInt = 7 := rfl
    have k6 : (6 : Int32).toInt = 6 := rfl
    have en : (10 * n + 7).toInt = 10 * n.toInt + 7 := by
      rw [Int32.toInt_add, Int32.toInt_mul, k3, k4, Int.bmod_eq_of_le (n := 10 * n.toInt) (by omega) (by omega), Int.bmod_eq_of_le (by omega) (by omega)]
    have zg : g.toInt ≠ 0 := fun q => z (Int32.toInt_inj.mp (by rw [q]; rfl))
    have hs' : ¬ (6 < g.toNatClampNeg % 10 ∨ (0 < g.toNatClampNeg ∧ g.toNatClampNeg < 10)) := hs
    refine Or.inr ⟨⟨?_, ?_⟩, ?_, ?_⟩
    · rw [a, le_toInt, nI_toInt (by omega), k1]; omega
    · rw [a, le_toInt, nI_toInt (by omega)]; omega
    · rw [b, le_toInt, nI_toInt (by omega), k0]; omega
    · rw [b, le_toInt, nI_toInt (by omega), k6]; omega
theorem fr_lt {Q : Int32 → Int32} {f F : Row} {g fm n : Int32} (h0 : 0 ≤ g) (hn2 : n ≤ 16) (hn : 1 ≤ n) (hg : g < 10 * n + 7) (e : frR Q f g.toNatClampNeg = (F, fm)) : 0 ≤ fm ∧ fm < 113 := by
  obtain ⟨m, e1, h⟩ := frR_b Q f g.toNatClampNeg
  rw [e] at e1
  dsimp only at e1
  have e := cl_toInt h0
  rw [le_toInt] at h0 hn hn2
  rw [in_toInt] at hg
  have k1 : (1 : Int32).toInt = 1 := rfl
  have k2 : (16 : Int32).toInt = 16 := rfl
  have k3 : (10 : Int32).toInt = 10 := rfl
  have k4 : (7 : Int32).toInt = 7 := rfl
  have k5 : (113 : Int32).toInt = 113 := rfl
  have k0 : (0 : Int32).toInt = 0 := rfl
  have en : (10 * n + 7).toInt = 10 * n.toInt + 7 := by
    rw [Int32.toInt_add, Int32.toInt_mul, k3, k4, Int.bmod_eq_of_le (n := 10 * n.toInt) (by omega) (by omega), Int.bmod_eq_of_le (by omega) (by omega)]
  subst e1
  rw [le_toInt, in_toInt, nI_toInt (by omega), k0, k5]
  omega
