/-! how many bits -/
def popS (n : Nat) : Nat := n % 2 + n / 2 % 2 + n / 4 % 2 + n / 8 % 2 + n / 16 % 2 + n / 32 % 2 + n / 64 % 2 + n / 128 % 2 + n / 256 % 2 + n / 512 % 2 + n / 1024 % 2 + n / 2048 % 2 + n / 4096 % 2 + n / 8192 % 2 + n / 16384 % 2 + n / 32768 % 2
def b1N (n : Nat) : Nat := n - (n >>> 1 &&& 1431655765)
def b2N (n : Nat) : Nat := (n &&& 858993459) + (n >>> 2 &&& 858993459)
def b3N (n : Nat) : Nat := n + n >>> 4 &&& 252645135
def b4N (n : Nat) : Nat := n + n >>> 8
def b5N (n : Nat) : Nat := n + n >>> 16
def bcN (n : Nat) : Nat := b5N (b4N (b3N (b2N (b1N n)))) &&& 63
/-- all numbers of a block of 2 ^ d -/
def blk (f : Nat → Bool) : Nat → Nat → Bool
  | 0, b => f b
  | d + 1, b => blk f d b && blk f d (b + 2 ^ d)
theorem blk_e {f : Nat → Bool} : ∀ (d b : Nat), blk f d b = true → ∀ n, b ≤ n → n < b + 2 ^ d → f n = true := by
  intro d
  induction d with
  | zero => intro b h n h1 h2; have : n = b := by omega
            subst this; exact h
  | succ d ih =>
    intro b h n h1 h2
    simp only [blk, Bool.and_eq_true] at h
    have e : 2 ^ (d + 1) = 2 ^ d + 2 ^ d := by rw [Nat.pow_succ]; omega
    by_cases q : n < b + 2 ^ d
    · exact ih b h.1 n h1 q
    · exact ih (b + 2 ^ d) h.2 n (by omega) (by omega)
theorem pop_k0 : blk (fun n => Nat.beq (bcN n) (popS n)) 14 0 = true := by decide +kernel
theorem pop_k1 : blk (fun n => Nat.beq (bcN n) (popS n)) 14 16384 = true := by decide +kernel
theorem pop_k2 : blk (fun n => Nat.beq (bcN n) (popS n)) 14 32768 = true := by decide +kernel
theorem pop_k3 : blk (fun n => Nat.beq (bcN n) (popS n)) 14 49152 = true := by decide +kernel
theorem pop_e {n : Nat} (h : n < 65536) : bcN n = popS n := by
  have e : (2 : Nat) ^ 14 = 16384 := rfl
  apply Nat.eq_of_beq_eq_true
  by_cases q : n < 16384
  · exact blk_e 14 0 pop_k0 n (Nat.zero_le _) (by omega)
  · by_cases q2 : n < 32768
    · exact blk_e 14 16384 pop_k1 n (by omega) (by omega)
    · by_cases q3 : n < 49152
      · exact blk_e 14 32768 pop_k2 n (by omega) (by omega)
      · exact blk_e 14 49152 pop_k3 n (by omega) (by omega)
theorem us_nI {n : Nat} (h : n < 2 ^ 31) {k : Int32} {j : Nat} (hk : (k.toUInt32 &&& Int32.toUInt32 31).toNat = j) (hj : j < 32) : ((nI n).toUInt32 >>> (k.toUInt32 &&& Int32.toUInt32 31)).toInt32 = nI (n >>> j) := by
  apply Int32.toBitVec_inj.mp
  apply BitVec.eq_of_toNat_eq
  show ((nI n).toUInt32 >>> (k.toUInt32 &&& Int32.toUInt32 31)).toNat = (BitVec.ofNat 32 (n >>> j)).toNat
  have l := Nat.shiftRight_le n j
  have e : (nI n).toUInt32.toNat = n := by
    show (BitVec.ofNat 32 n).toNat = n
    rw [BitVec.toNat_ofNat, Nat.mod_eq_of_lt (by omega)]
  rw [UInt32.toNat_shiftRight, hk, BitVec.toNat_ofNat, e, Nat.mod_eq_of_lt hj, Nat.mod_eq_of_lt (by omega)]
theorem an_nI {n m : Nat} (h : n < 2 ^ 31) (h2 : m < 2 ^ 31) : nI n &&& nI m = nI (n &&& m) := by
  rw [and_nI h]
  have e : bvN (nI m) = m := by
    show (BitVec.ofNat 32 m).toNat = m
    rw [BitVec.toNat_ofNat, Nat.mod_eq_of_lt (by omega)]
  rw [e]
def i1 (x : Int32) : Int32 := x - ((x.toUInt32 >>> ((1 : Int32).toUInt32 &&& Int32.toUInt32 31)).toInt32 &&& 1431655765)
def i2 (x : Int32) : Int32 := (x &&& 858993459) + ((x.toUInt32 >>> ((2 : Int32).toUInt32 &&& Int32.toUInt32 31)).toInt32 &&& 858993459)
def i3 (x : Int32) : Int32 := (x + (x.toUInt32 >>> ((4 : Int32).toUInt32 &&& Int32.toUInt32 31)).toInt32) &&& 252645135
def i4 (x : Int32) : Int32 := x + (x.toUInt32 >>> ((8 : Int32).toUInt32 &&& Int32.toUInt32 31)).toInt32
def i5 (x : Int32) : Int32 := x + (x.toUInt32 >>> ((16 : Int32).toUInt32 &&& Int32.toUInt32 31)).toInt32
theorem bcF_i (x : Int32) : bcF x = i5 (i4 (i3 (i2 (i1 x)))) &&& 63 := rfl
theorem i1_N {n : Nat} (h : n < 65536) : i1 (nI n) = nI (b1N n) ∧ b1N n < 65536 := by
  have l1 : n >>> 1 &&& 1431655765 ≤ n := Nat.le_trans Nat.and_le_left (Nat.shiftRight_le _ _)
  have s := Nat.shiftRight_le n 1
  simp only [i1, b1N]
  rw [us_nI (j := 1) (by omega) (by decide) (by omega), show (1431655765 : Int32) = nI 1431655765 from rfl, an_nI (by omega) (by omega), nI_subl l1]
  exact ⟨rfl, by omega⟩
theorem i2_N {a : Nat} (h : a < 65536) : i2 (nI a) = nI (b2N a) ∧ b2N a < 131072 := by
  have la := Nat.shiftRight_le a 2
  have la1 : a &&& 858993459 ≤ a := Nat.and_le_left
  have la2 : a >>> 2 &&& 858993459 ≤ a >>> 2 := Nat.and_le_left
  simp only [i2, b2N]
  rw [us_nI (j := 2) (by omega) (by decide) (by omega), show (858993459 : Int32) = nI 858993459 from rfl, an_nI (by omega) (by omega), an_nI (by omega) (by omega), nI_add]
  exact ⟨rfl, by omega⟩
theorem i3_N {a : Nat} (h : a < 131072) : i3 (nI a) = nI (b3N a) ∧ b3N a < 262144 := by
  have la := Nat.shiftRight_le a 4
  have la1 : a + a >>> 4 &&& 252645135 ≤ a + a >>> 4 := Nat.and_le_left
  simp only [i3, b3N]
  rw [us_nI (j := 4) (by omega) (by decide) (by omega), show (252645135 : Int32) = nI 252645135 from rfl, nI_add, an_nI (by omega) (by omega)]
  exact ⟨rfl, by omega⟩
theorem i4_N {a : Nat} (h : a < 262144) : i4 (nI a) = nI (b4N a) ∧ b4N a < 524288 := by
  have la := Nat.shiftRight_le a 8
  simp only [i4, b4N]
  rw [us_nI (j := 8) (by omega) (by decide) (by omega), nI_add]
  exact ⟨rfl, by omega⟩
theorem i5_N {a : Nat} (h : a < 524288) : i5 (nI a) = nI (b5N a) ∧ b5N a < 1048576 := by
  have la := Nat.shiftRight_le a 16
  simp only [i5, b5N]
  rw [us_nI (j := 16) (by omega) (by decide) (by omega), nI_add]
  exact ⟨rfl, by omega⟩
theorem bcF_N {n : Nat} (h : n < 65536) : bcF (nI n) = nI (popS n) := by
  obtain ⟨e1, g1⟩ := i1_N h
  obtain ⟨e2, g2⟩ := i2_N g1
  obtain ⟨e3, g3⟩ := i3_N g2
  obtain ⟨e4, g4⟩ := i4_N g3
  obtain ⟨e5, g5⟩ := i5_N g4
  rw [bcF_i, e1, e2, e3, e4, e5, show (63 : Int32) = nI 63 from rfl, an_nI (by omega) (by omega), ← pop_e h]
  rfl
/-! bits taken one by one -/
def popD : Nat → Nat → Nat
  | 0, _ => 0
  | d + 1, n => n % 2 + popD d (n / 2)
theorem popS_D (n : Nat) : popS n = popD 16 n := by
  simp only [popS, popD, Nat.div_div_eq_div_mul, Nat.reduceMul, Nat.add_zero, Nat.add_assoc]
theorem popD_z (d : Nat) : popD d 0 = 0 := by
  induction d with
  | zero => rfl
  | succ d ih => simp only [popD, Nat.zero_div, Nat.zero_mod, ih]
theorem and_bit (a b : Nat) : (a &&& b) % 2 = a % 2 * (b % 2) := by
  have e := Nat.and_mod_two_pow (a := a) (b := b) (n := 1)
  rw [Nat.pow_one] at e
  rw [e]
  rcases Nat.mod_two_eq_zero_or_one a with p | p <;> rcases Nat.mod_two_eq_zero_or_one b with q | q <;> rw [p, q] <;> rfl
/-- the lowest bit taken away -/
theorem popD_dec : ∀ (d n : Nat), 0 < n → n < 2 ^ d → popD d (n &&& (n - 1)) + 1 = popD d n := by
  intro d
  induction d with
  | zero => intro n h1 h2; omega
  | succ d ih =>
    intro n h1 h2
    have e : 2 ^ (d + 1) = 2 ^ d + 2 ^ d := by rw [Nat.pow_succ]; omega
    simp only [popD]
    rw [and_bit, Nat.and_div_two]
    rcases Nat.mod_two_eq_zero_or_one n with p | p
    · have m1 : (n - 1) / 2 = n / 2 - 1 := by omega
      rw [p, m1]
      have := ih (n / 2) (by omega) (by omega)
      omega
    · have m1 : (n - 1) / 2 = n / 2 := by omega
      have m2 : (n - 1) % 2 = 0 := by omega
      rw [p, m1, m2, Nat.and_self]
      omega
theorem popD_sub : ∀ (d s u : Nat), s < 2 ^ d → u < 2 ^ d → s &&& u = s → popD d s ≤ popD d u ∧ (popD d s = popD d u → s = u) := by
  intro d
  induction d with
  | zero => intro s u h1 h2 _; exact ⟨Nat.le_refl _, fun _ => by omega⟩
  | succ d ih =>
    intro s u h1 h2 h
    have e : 2 ^ (d + 1) = 2 ^ d + 2 ^ d := by rw [Nat.pow_succ]; omega
    have a := and_bit s u
    rw [h] at a
    have b : s / 2 &&& u / 2 = s / 2 := by rw [← Nat.and_div_two, h]
    obtain ⟨c1, c2⟩ := ih (s / 2) (u / 2) (by omega) (by omega) b
    have l : s % 2 ≤ u % 2 := by
      rcases Nat.mod_two_eq_zero_or_one u with q | q
      · rw [q, Nat.mul_zero] at a; omega
      · omega
    simp only [popD]
    refine ⟨by omega, fun q => ?_⟩
    have := c2 (by omega)
    omega
theorem bt_N : ∀ (n f : Nat) (c : Int32), n ≤ f → n < 65536 → btR f c (nI n) = c + nI (popD 16 n) := by
  intro n
  induction n using Nat.strongRecOn with
  | ind n ih =>
    intro f c hf hn
    by_cases q : n = 0
    · subst q
      rw [popD_z]
      have z : btR f c (nI 0) = c := by
        cases f with
        | zero => rfl
        | succ f => simp only [btR]; rw [if_pos (show nI 0 = 0 from rfl)]
      rw [z]
      show c = c + 0
      rw [Int32.add_zero]
    · obtain ⟨f, rfl⟩ : ∃ k, f = k + 1 := ⟨f - 1, by omega⟩
      have ne : ¬ nI n = 0 := fun z => q (nI_inj (b := 0) (by omega) (by omega) z)
      simp only [btR]
      rw [if_neg ne]
      have e1 : nI n - 1 = nI (n - 1) := nI_subl (b := 1) (by omega)
      have l : n &&& (n - 1) ≤ n - 1 := Nat.and_le_right
      rw [e1, an_nI (by omega) (by omega), ih (n &&& (n - 1)) (by omega) f (c + 1) (by omega) (by omega)]
      have d := popD_dec 16 n (by omega) (by omega)
      rw [← d, ← nI_1]
      grind
theorem bits_N {n : Nat} (h : n < 65536) : bits (nI n) = nI (popS n) := by
  have e : bvN (nI n) = n := by
    show (BitVec.ofNat 32 n).toNat = n
    rw [BitVec.toNat_ofNat, Nat.mod_eq_of_lt (by omega)]
  simp only [bits]
  rw [e, bt_N n n 0 (Nat.le_refl _) h, popS_D]
  show 0 + _ = _
  rw [Int32.zero_add]
theorem popS_b {n : Nat} : popS n ≤ 16 := by simp only [popS]; omega
