/-! both sides: cars cut out -/
def bt (n k : Nat) : Nat := n / 2 ^ k % 2
def tsB (n : Nat) : Bool := (List.range 12).all fun k => decide ((nI n >>> (nI k &&& 31)) &&& 1 = nI (bt n k))
theorem bt_k : blk tsB 11 0 = true := by decide +kernel
theorem bt_e {n k : Nat} (hn : n < 2048) (hk : k < 12) : (nI n >>> (nI k &&& 31)) &&& 1 = nI (bt n k) := by
  have h := blk_e 11 0 bt_k n (Nat.zero_le _) (by show n < 0 + 2048; omega)
  have := List.all_eq_true.mp h k (List.mem_range.mpr hk)
  exact of_decide_eq_true this
theorem bt_2 (n k : Nat) : bt n k < 2 := Nat.mod_lt _ (by omega)
theorem bt_lo {a b j k : Nat} (h : j < k) : bt (a + b * 2 ^ k) j = bt a j := by
  simp only [bt]
  obtain ⟨c, rfl⟩ : ∃ c, k = j + 1 + c := ⟨k - j - 1, by omega⟩
  have e : b * 2 ^ (j + 1 + c) = (b * 2 ^ c * 2) * 2 ^ j := by rw [Nat.pow_add, Nat.pow_succ]; rw [Nat.mul_comm (2 ^ j * 2)]; simp only [Nat.mul_assoc, Nat.mul_comm, Nat.mul_left_comm]
  rw [e, Nat.add_mul_div_right _ _ (Nat.two_pow_pos j)]
  omega
theorem bt_hi {a b k : Nat} (ha : a < 2 ^ k) (hb : b < 2) : bt (a + b * 2 ^ k) k = b := by
  simp only [bt]
  rw [Nat.add_mul_div_right _ _ (Nat.two_pow_pos k), Nat.div_eq_of_lt ha]
  omega
theorem bt_mod {n j k : Nat} (h : j < k) : bt (n % 2 ^ k) j = bt n j := by
  have e : n % 2 ^ k + n / 2 ^ k * 2 ^ k = n := by rw [Nat.mul_comm]; exact Nat.mod_add_div n (2 ^ k)
  have := bt_lo (a := n % 2 ^ k) (b := n / 2 ^ k) h
  rw [e] at this
  exact this.symm
theorem bt_z {n k : Nat} (h : n < 2 ^ k) : bt n k = 0 := by simp only [bt]; rw [Nat.div_eq_of_lt h]
/-- a set within another -/
def sub (x X : Nat) : Prop := x &&& X = x
theorem sub_bt {x X : Nat} (h : sub x X) (j : Nat) : bt x j ≤ bt X j := by
  have e : bt x j = bt x j * bt X j := by
    have : bt (x &&& X) j = bt x j * bt X j := by
      simp only [bt]; rw [Nat.and_div_two_pow, and_bit]
    rw [← this, h]
  have a := bt_2 x j
  have b := bt_2 X j
  rcases (show bt X j = 0 ∨ bt X j = 1 by omega) with q | q
  · rw [q, Nat.mul_zero] at e; omega
  · omega
theorem bt_sub {x X : Nat} (h : ∀ j, bt x j ≤ bt X j) : sub x X := by
  apply Nat.eq_of_testBit_eq
  intro j
  rw [Nat.testBit_and, Nat.testBit_eq_decide_div_mod_eq, Nat.testBit_eq_decide_div_mod_eq]
  have := h j
  have a := bt_2 x j
  have b := bt_2 X j
  simp only [bt] at this a b
  by_cases q : x / 2 ^ j % 2 = 1
  · have q2 : X / 2 ^ j % 2 = 1 := by omega
    rw [q, q2]; rfl
  · simp [q]
theorem sub_dn : ∀ (d x s X : Nat), x < 2 ^ d → s < 2 ^ d → X < 2 ^ d → sub x X → sub s X → x < s → x ≤ (s - 1) &&& X := by
  intro d
  induction d with
  | zero => intro x s X h1 h2 _ _ _ h; omega
  | succ d ih =>
    intro x s X h1 h2 h3 hx hs h
    have e : 2 ^ (d + 1) = 2 ^ d + 2 ^ d := by rw [Nat.pow_succ]; omega
    have ax := and_bit x X
    rw [show x &&& X = x from hx] at ax
    have as := and_bit s X
    rw [show s &&& X = s from hs] at as
    have bx : sub (x / 2) (X / 2) := by show x / 2 &&& X / 2 = x / 2; rw [← Nat.and_div_two, show x &&& X = x from hx]
    have bs : sub (s / 2) (X / 2) := by show s / 2 &&& X / 2 = s / 2; rw [← Nat.and_div_two, show s &&& X = s from hs]
    have r1 := and_bit (s - 1) X
    have r2 := Nat.and_div_two (a := s - 1) (b := X)
    rcases Nat.mod_two_eq_zero_or_one s with p | p
    · have m1 : (s - 1) / 2 = s / 2 - 1 := by omega
      have m2 : (s - 1) % 2 = 1 := by omega
      rw [m1] at r2
      rw [m2, Nat.one_mul] at r1
      have q := ih (x / 2) (s / 2) (X / 2) (by omega) (by omega) (by omega) bx bs (by omega)
      have l : x % 2 ≤ X % 2 := by
        rcases Nat.mod_two_eq_zero_or_one X with y | y
        · rw [y, Nat.mul_zero] at ax; omega
        · omega
      omega
    · have m1 : (s - 1) / 2 = s / 2 := by omega
      rw [m1, show s / 2 &&& X / 2 = s / 2 from bs] at r2
      omega
/-- the reference's loop over all sets -/
theorem cS_e {F cn : Int32 → Int32} {m s : Int32} {f : Row} {c k : Nat} (hc : cn s = nI c) (h1 : c < 11) (h2 : k < 11) : ctS F cn m s f k = 0 ↔ (f k = 0 ∧ (c = k → F s ≠ (-1) ∧ F s ≤ m)) := by
  simp only [ctS]
  rw [hc, nI_clamp (by omega)]
  by_cases q : f c = 0 ∧ ¬ (F s ≠ (-1) ∧ F s ≤ m)
  · rw [if_pos q]
    by_cases e : k = c
    · subst e
      rw [upd_s]
      exact ⟨fun z => absurd z (by decide), fun z => absurd (z.2 rfl) q.2⟩
    · rw [upd_n _ _ e]
      exact ⟨fun z => ⟨z, fun y => absurd y.symm e⟩, fun z => z.1⟩
  · rw [if_neg q]
    refine ⟨fun z => ⟨z, fun y => ?_⟩, fun z => z.1⟩
    subst y
    by_cases w : F s ≠ (-1) ∧ F s ≤ m
    · exact w
    · exact absurd ⟨z, w⟩ q
theorem ct_e {F cn : Int32 → Int32} {m : Int32} {X : Nat} (hX : X < 2048) (hcn : ∀ x, sub x X → ∃ c, cn (nI x) = nI c ∧ c < 11) : ∀ (S fu : Nat) (f : Row), S < 2048 → S + 1 ≤ fu → sub S X → ∀ k, k < 11 → (ctG F cn (nI X) m fu (nI S) f k = 0 ↔ (f k = 0 ∧ ∀ x, x ≤ S → sub x X → cn (nI x) = nI k → F (nI x) ≠ (-1) ∧ F (nI x) ≤ m)) := by
  intro S
  induction S using Nat.strongRecOn with
  | ind S ih =>
    intro fu f hS hf hs k hk
    obtain ⟨c, ec, hc⟩ := hcn S hs
    have eS := cS_e (F := F) (m := m) (f := f) ec hc hk
    have ck : cn (nI S) = nI k ↔ c = k := by rw [ec]; exact ⟨fun z => nI_inj (by omega) (by omega) z, fun z => by rw [z]⟩
    by_cases q : S = 0
    · subst q
      rw [ct_st (f2 := ctS F cn m (nI 0) f) (by omega) (by show ¬ (0 : Int32) < 0; decide) rfl, eS]
      constructor
      · intro z
        refine ⟨z.1, fun x hx hsx hcx => ?_⟩
        have : x = 0 := by omega
        subst this
        exact z.2 (ck.mp hcx)
      · intro z
        exact ⟨z.1, fun y => z.2 0 (Nat.le_refl _) hs (ck.mpr y)⟩
    · have hp : 0 < nI S := (nI_ltq (a := 0) (by omega) (by omega)).mpr (by omega)
      have e1 : (nI S - 1) &&& nI X = nI ((S - 1) &&& X) := by
        rw [show nI S - 1 = nI (S - 1) from nI_subl (b := 1) (by omega), an_nI (by omega) (by omega)]
      have l : (S - 1) &&& X ≤ S - 1 := Nat.and_le_left
      have sb : sub ((S - 1) &&& X) X := by show (S - 1) &&& X &&& X = (S - 1) &&& X; rw [Nat.and_assoc, Nat.and_self]
      rw [ct_go (by omega) hp rfl, e1, ih ((S - 1) &&& X) (by omega) (fu - 1) _ (by omega) (by omega) sb k hk, eS]
      constructor
      · intro z
        refine ⟨z.1.1, fun x hx hsx hcx => ?_⟩
        by_cases y : x = S
        · subst y; exact z.1.2 (ck.mp hcx)
        · exact z.2 x (sub_dn 11 x S X (by omega) (by omega) (by omega) hsx hs (by omega)) hsx hcx
      · intro z
        exact ⟨⟨z.1, fun y => z.2 S (Nat.le_refl _) hs (ck.mpr y)⟩, fun x hx hsx hcx => z.2 x (by omega) hsx hcx⟩
/-- the class's loop over all sets -/
theorem sw_e {G : Int32 → Int32} {k : Int32} : ∀ (f b : Nat), swR G k f (nI b) ≠ 0 ↔ ∀ i, b ≤ i → i < b + f → ¬ (bcF (nI i) = k ∧ G (nI i) = (-1)) := by
  intro f
  induction f with
  | zero => intro b; exact ⟨fun _ i h1 h2 => by omega, fun _ => by show (1 : Int32) ≠ 0; decide⟩
  | succ f ih =>
    intro b
    simp only [swR]
    by_cases q : bcF (nI b) = k ∧ G (nI b) = (-1)
    · rw [if_pos q]
      exact ⟨fun z => absurd rfl z, fun z => absurd q (z b (Nat.le_refl _) (by omega))⟩
    · rw [if_neg q, nI_1, ih]
      constructor
      · intro z i h1 h2
        by_cases e : i = b
        · subst e; exact q
        · exact z i (by omega) (by omega)
      · intro z i h1 h2
        exact z i (by omega) (by omega)
theorem ls_cg {a b : Nat → Int32} : ∀ m, (∀ k, k < m → (a k ≠ 0 ↔ b k ≠ 0)) → lsR a m = lsR b m := by
  intro m
  induction m with
  | zero => intro _; rfl
  | succ m ih =>
    intro h
    simp only [lsR]
    have e := h m (by omega)
    rw [ih (fun k hk => h k (by omega))]
    by_cases q : a m ≠ 0
    · rw [if_pos q, if_pos (e.mp q)]
    · rw [if_neg q, if_neg (fun z => q (e.mpr z))]
theorem popD_a {d a b N : Nat} (h : a < 2 ^ N) (hb : b < 2) (hd : N < d) : popD d (a + b * 2 ^ N) = popD d a + b := by
  induction N generalizing d a with
  | zero =>
    have : a = 0 := by omega
    subst this
    obtain ⟨d, rfl⟩ : ∃ k, d = k + 1 := ⟨d - 1, by omega⟩
    simp only [popD, Nat.pow_zero, Nat.mul_one, Nat.zero_add, Nat.zero_mod, Nat.zero_div]
    rw [show b / 2 = 0 by omega, popD_z]; omega
  | succ N ih =>
    obtain ⟨d, rfl⟩ : ∃ k, d = k + 1 := ⟨d - 1, by omega⟩
    have e : b * 2 ^ (N + 1) = (b * 2 ^ N) * 2 := by rw [Nat.pow_succ, Nat.mul_assoc]
    have e2 : 2 ^ (N + 1) = 2 ^ N + 2 ^ N := by rw [Nat.pow_succ]; omega
    simp only [popD]
    rw [e, Nat.add_mul_mod_self_right, Nat.add_mul_div_right _ _ (by omega), ih (by omega) (by omega)]
    omega
/-- the cars that are not out, up to k: how many, as bits -/
def nC (o : Row) : Nat → Nat
  | 0 => 0
  | 1 => 0
  | k + 2 => if o (k + 1) = 0 then nC o (k + 1) + 1 else nC o (k + 1)
def xC (o : Row) : Nat → Nat
  | 0 => 0
  | 1 => 0
  | k + 2 => if o (k + 1) = 0 then xC o (k + 1) + 2 ^ (k + 1) else xC o (k + 1)
theorem nC_s (o : Row) {k : Nat} (h : 1 ≤ k) : nC o (k + 1) = if o k = 0 then nC o k + 1 else nC o k := by
  obtain ⟨d, rfl⟩ : ∃ d, k = d + 1 := ⟨k - 1, by omega⟩
  rfl
theorem xC_s (o : Row) {k : Nat} (h : 1 ≤ k) : xC o (k + 1) = if o k = 0 then xC o k + 2 ^ k else xC o k := by
  obtain ⟨d, rfl⟩ : ∃ d, k = d + 1 := ⟨k - 1, by omega⟩
  rfl
def o01 (o : Row) (k : Nat) : Prop := ∀ j, 1 ≤ j → j < k → o j = 0 ∨ o j = 1
theorem xC_b (o : Row) : ∀ k, 1 ≤ k → xC o k < 2 ^ k ∧ nC o k < k := by
  intro k
  induction k with
  | zero => intro h; omega
  | succ k ih =>
    intro _
    by_cases q : 1 ≤ k
    · have a := ih q
      have e : 2 ^ (k + 1) = 2 ^ k + 2 ^ k := by rw [Nat.pow_succ]; omega
      rw [xC_s o q, nC_s o q]
      split <;> omega
    · have : k = 0 := by omega
      subst this; exact ⟨by show 0 < 2 ^ 1; omega, by show 0 < 1; omega⟩
theorem or_pow {x k : Nat} (h : x < 2 ^ k) : x ||| 2 ^ k = x + 2 ^ k := by
  apply Nat.eq_of_testBit_eq
  intro i
  rw [Nat.testBit_or, Nat.testBit_two_pow]
  by_cases q : i = k
  · subst q
    have : (x + 2 ^ i).testBit i = true := by
      rw [Nat.testBit_eq_decide_div_mod_eq]
      have := bt_hi (b := 1) h (by omega)
      simp only [bt, Nat.one_mul] at this
      rw [this]; rfl
    rw [this]; simp
  · have e1 : decide (k = i) = false := decide_eq_false (fun z => q z.symm)
    rw [e1, Bool.or_false, Nat.testBit_eq_decide_div_mod_eq, Nat.testBit_eq_decide_div_mod_eq]
    by_cases z : i < k
    · have := bt_lo (a := x) (b := 1) z
      simp only [bt, Nat.one_mul] at this
      rw [this]
    · have l1 : 2 ^ (k + 1) ≤ 2 ^ i := Nat.pow_le_pow_right (by omega) (by omega)
      have e : 2 ^ (k + 1) = 2 ^ k + 2 ^ k := by rw [Nat.pow_succ]; omega
      rw [Nat.div_eq_of_lt (show x < 2 ^ i by omega), Nat.div_eq_of_lt (show x + 2 ^ k < 2 ^ i by omega)]
theorem in_C {o : Row} : ∀ k, 1 ≤ k → k ≤ 11 → o01 o k → inR o k = (nI (xC o k), nI (nC o k)) := by
  intro k
  induction k with
  | zero => intro h; omega
  | succ k ih =>
    intro _ h2 ho
    by_cases q : 1 ≤ k
    · rw [inR_s _ q, ih q (by omega) (fun j a b => ho j a (by omega)), xC_s o q, nC_s o q]
      rcases ho k q (by omega) with z | z
      · rw [if_neg (by rw [z]; decide), if_pos z, if_pos z]
        show (nI (xC o k) ||| 1 <<< (nI k &&& 31), nI (nC o k) + 1) = _
        rw [sh11 k (by omega), nI_or, or_pow (xC_b o k q).1, nI_1]
      · rw [if_pos z, if_neg (by rw [z]; decide), if_neg (by rw [z]; decide)]
    · have : k = 0 := by omega
      subst this; rfl
theorem bk_C {o b0 : Row} : ∀ k, 1 ≤ k → k ≤ 11 → (bkR o b0 k).2 = nI (nC o k) ∧ ∀ a, a < nC o k → ∃ j, 1 ≤ j ∧ j < k ∧ (bkR o b0 k).1 a = nI j := by
  intro k
  induction k with
  | zero => intro h; omega
  | succ k ih =>
    intro _ h2
    by_cases q : 1 ≤ k
    · obtain ⟨e, h⟩ := ih q (by omega)
      have nb := (xC_b o k q).2
      rw [bkR_s _ _ q, nC_s o q]
      by_cases z : o k = 0
      · rw [if_pos z, if_pos z]
        refine ⟨by show (bkR o b0 k).2 + 1 = _; rw [e, nI_1], fun a ha => ?_⟩
        show ∃ j, 1 ≤ j ∧ j < k + 1 ∧ upd (bkR o b0 k).1 (bkR o b0 k).2.toNatClampNeg (nI k) a = nI j
        rw [e, nI_clamp (by omega)]
        by_cases y : a = nC o k
        · subst y; exact ⟨k, q, by omega, upd_s _ _ _⟩
        · rw [upd_n _ _ y]
          obtain ⟨j, j1, j2, j3⟩ := h a (by omega)
          exact ⟨j, j1, by omega, j3⟩
      · rw [if_neg z, if_neg z]
        refine ⟨e, fun a ha => ?_⟩
        obtain ⟨j, j1, j2, j3⟩ := h a ha
        exact ⟨j, j1, by omega, j3⟩
    · have : k = 0 := by omega
      subst this
      exact ⟨rfl, fun a ha => absurd ha (Nat.not_lt_zero _)⟩
theorem so_bits {o B C : Row} {i i2 : Nat} (hi : i < 2048) (hi2 : i2 < 2048) : ∀ n, n ≤ 11 → (∀ a, a < n → B a = C a ∧ bt i a = bt i2 a) → setOut o B (nI i) n = setOut o C (nI i2) n := by
  intro n
  induction n with
  | zero => intro _ _; rfl
  | succ n ih =>
    intro hn h
    simp only [setOut]
    rw [ih (by omega) (fun a ha => h a (by omega)), bt_e hi (by omega), bt_e hi2 (by omega), (h n (by omega)).1, (h n (by omega)).2]
theorem ou_e {o : Row} {X x c j : Nat} (hX : X < 2048) (hx : x < 2048) (h1 : 1 ≤ j) (h2 : j < c) (h3 : j < 12) : ouR o (nI X) (nI x) c j = if bt X j = 0 then o j else nI (bt x j) := by
  simp only [ouR]
  rw [bt_e hX h3, bt_e hx h3]
  by_cases q : bt X j = 0
  · rw [if_pos q, if_neg (fun z => z.2 (by rw [q]; rfl))]
  · have b := bt_2 X j
    rw [if_neg q, if_pos ⟨⟨h1, h2⟩, fun z => q (nI_inj (b := 0) (by omega) (by omega) z)⟩]
theorem cn_e {X x k : Nat} (hX : X < 2048) (hx : x < 2048) (hs : ∀ j, bt x j ≤ bt X j) (h1 : 1 ≤ k) (h2 : k < 12) : cnR (nI X) (nI x) (k + 1) = cnR (nI X) (nI x) k + nI (bt x k) := by
  rw [cnR_s _ _ h1, bt_e hX h2, bt_e hx h2]
  by_cases q : bt X k = 0
  · have := hs k
    rw [if_pos (by rw [q]; rfl), show bt x k = 0 by omega]
    show _ = _ + 0
    rw [Int32.add_zero]
  · have b := bt_2 X k
    rw [if_neg (show ¬ nI (bt X k) = 0 from fun z => q (nI_inj (b := 0) (by omega) (by omega) z))]
theorem cn_cg {X Y x y : Nat} (hX : X < 2048) (hY : Y < 2048) (hx : x < 2048) (hy : y < 2048) : ∀ k, 1 ≤ k → k ≤ 11 → (∀ j, j < k → bt X j = bt Y j ∧ bt x j = bt y j) → cnR (nI X) (nI x) k = cnR (nI Y) (nI y) k := by
  intro k
  induction k with
  | zero => intro h; omega
  | succ k ih =>
    intro _ h2 h
    by_cases q : 1 ≤ k
    · obtain ⟨a, b⟩ := h k (by omega)
      rw [cnR_s _ _ q, cnR_s _ _ q, bt_e hX (by omega), bt_e hY (by omega), bt_e hx (by omega), bt_e hy (by omega), a, b, ih q (by omega) (fun j hj => h j (by omega))]
    · have : k = 0 := by omega
      subst this; rfl
/-- a choice of the class's and one of the reference's that cut out the same cars -/
def cR (o b0 : Row) (k i x : Nat) : Prop := (∀ j, 1 ≤ j → j < k → setOut o (bkR o b0 k).1 (nI i) (nC o k) j = ouR o (nI (xC o k)) (nI x) k j) ∧ cnR (nI (xC o k)) (nI x) k = nI (popD 16 i)
theorem p211 {k : Nat} (h : k ≤ 11) : 2 ^ k ≤ 2048 := (Nat.pow_le_pow_right (by omega) h : 2 ^ k ≤ 2 ^ 11)
theorem cR_st {o b0 : Row} {k i x b : Nat} (h1 : 1 ≤ k) (h2 : k ≤ 10) (hi : i < 2 ^ nC o k) (hx : x < 2 ^ k) (hs : sub x (xC o k)) (hb : b < 2) (hbo : o k = 0 ∨ b = 0) (h : cR o b0 k i x) : cR o b0 (k + 1) (i + b * 2 ^ nC o k) (x + b * 2 ^ k) ∧ i + b * 2 ^ nC o k < 2 ^ nC o (k + 1) ∧ x + b * 2 ^ k < 2 ^ (k + 1) ∧ sub (x + b * 2 ^ k) (xC o (k + 1)) := by
  obtain ⟨hr, hc⟩ := h
  obtain ⟨xb, nb⟩ := xC_b o k h1
  obtain ⟨be, bj⟩ := bk_C (o := o) (b0 := b0) k h1 (by omega)
  have e2 : 2 ^ (k + 1) = 2 ^ k + 2 ^ k := by rw [Nat.pow_succ]; omega
  have pk := p211 (k := k + 1) (by omega)
  have eN : 2 ^ nC o k ≤ 2 ^ k := Nat.pow_le_pow_right (by omega) (by omega)
  have bk2 : b * 2 ^ k ≤ 2 ^ k := by rcases (show b = 0 ∨ b = 1 by omega) with q | q <;> rw [q] <;> omega
  have bn2 : b * 2 ^ nC o k ≤ 2 ^ nC o k := by rcases (show b = 0 ∨ b = 1 by omega) with q | q <;> rw [q] <;> omega
  have hp := popD_a (d := 16) hi hb (by omega)
  by_cases z : o k = 0
  · have eX : xC o (k + 1) = xC o k + 1 * 2 ^ k := by rw [xC_s o h1, if_pos z, Nat.one_mul]
    have eC : nC o (k + 1) = nC o k + 1 := by rw [nC_s o h1, if_pos z]
    have eB : (bkR o b0 (k + 1)).1 = upd (bkR o b0 k).1 (nC o k) (nI k) := by
      rw [bkR_s _ _ h1, if_pos z]
      show upd (bkR o b0 k).1 (bkR o b0 k).2.toNatClampNeg (nI k) = _
      rw [be, nI_clamp (by omega)]
    have hX1 : xC o k + 1 * 2 ^ k < 2048 := by omega
    have hx1 : x + b * 2 ^ k < 2048 := by omega
    have bX : ∀ j, j < k → bt (xC o k + 1 * 2 ^ k) j = bt (xC o k) j := fun j hj => bt_lo hj
    have bx : ∀ j, j < k → bt (x + b * 2 ^ k) j = bt x j := fun j hj => bt_lo hj
    have bXk : bt (xC o k + 1 * 2 ^ k) k = 1 := bt_hi xb (by omega)
    have bxk : bt (x + b * 2 ^ k) k = b := bt_hi hx hb
    have hsub : sub (x + b * 2 ^ k) (xC o k + 1 * 2 ^ k) := by
      apply bt_sub
      intro j
      rcases Nat.lt_trichotomy j k with q | q | q
      · rw [bX j q, bx j q]; exact sub_bt hs j
      · subst q; rw [bXk, bxk]; omega
      · have l1 : 2 ^ (k + 1) ≤ 2 ^ j := Nat.pow_le_pow_right (by omega) (by omega)
        rw [bt_z (n := x + b * 2 ^ k) (by omega)]; exact Nat.zero_le _
    have en : 2 ^ (nC o k + 1) = 2 ^ nC o k + 2 ^ nC o k := by rw [Nat.pow_succ]; omega
    refine ⟨⟨fun j j1 j2 => ?_, ?_⟩, by rw [eC, en]; omega, by rw [e2]; omega, by rw [eX]; exact hsub⟩
    · rw [eB, eC, eX]
      simp only [setOut]
      rw [upd_s, nI_clamp (show k < 2 ^ 31 by omega), ou_e hX1 hx1 j1 j2 (by omega)]
      have es : setOut o (upd (bkR o b0 k).1 (nC o k) (nI k)) (nI (i + b * 2 ^ nC o k)) (nC o k) = setOut o (bkR o b0 k).1 (nI i) (nC o k) := by
        refine so_bits (by omega) (by omega) _ (by omega) (fun a ha => ⟨upd_n _ _ (by omega), bt_lo ha⟩)
      rw [es]
      by_cases y : j = k
      · subst y
        rw [upd_s, bXk, bxk, if_neg (by omega), bt_e (by omega) (by omega), bt_hi hi hb]
      · rw [upd_n _ _ y, hr j j1 (by omega), ou_e (by omega) (by omega) j1 (show j < k by omega) (by omega), bX j (by omega), bx j (by omega)]
    · rw [eX, cn_e hX1 hx1 (sub_bt hsub) h1 (by omega), bxk, cn_cg hX1 (show xC o k < 2048 by omega) hx1 (show x < 2048 by omega) k h1 (by omega) (fun j hj => ⟨bX j hj, bx j hj⟩), hc, nI_add, hp]
  · have hb0 : b = 0 := hbo.resolve_left z
    subst hb0
    have eX : xC o (k + 1) = xC o k := by rw [xC_s o h1, if_neg z]
    have eC : nC o (k + 1) = nC o k := by rw [nC_s o h1, if_neg z]
    have eB : (bkR o b0 (k + 1)).1 = (bkR o b0 k).1 := by rw [bkR_s _ _ h1, if_neg z]
    simp only [Nat.zero_mul, Nat.add_zero]
    refine ⟨⟨fun j j1 j2 => ?_, ?_⟩, by rw [eC]; exact hi, by rw [e2]; omega, by rw [eX]; exact hs⟩
    · rw [eB, eC, eX]
      by_cases y : j = k
      · subst y
        rw [ou_e (by omega) (by omega) j1 j2 (by omega), bt_z xb, if_pos rfl]
        refine setOut_n o _ _ _ _ (fun a ha => ?_)
        obtain ⟨q, q1, q2, q3⟩ := bj a ha
        rw [q3, nI_clamp (by omega)]
        omega
      · rw [hr j j1 (by omega), ou_e (by omega) (by omega) j1 (show j < k by omega) (by omega), ou_e (by omega) (by omega) j1 j2 (by omega)]
    · rw [eX, cn_e (show xC o k < 2048 by omega) (show x < 2048 by omega) (sub_bt hs) h1 (by omega), bt_z hx, hc]
      show _ + 0 = _
      rw [Int32.add_zero]
theorem cR_all {o b0 : Row} : ∀ k, 1 ≤ k → k ≤ 11 → (∀ i, i < 2 ^ nC o k → ∃ x, x < 2 ^ k ∧ sub x (xC o k) ∧ cR o b0 k i x) ∧ (∀ x, sub x (xC o k) → ∃ i, i < 2 ^ nC o k ∧ cR o b0 k i x) := by
  intro k
  induction k with
  | zero => intro h; omega
  | succ k ih =>
    intro _ h2
    by_cases q : 1 ≤ k
    · obtain ⟨ha, hb⟩ := ih q (by omega)
      obtain ⟨xb, nb⟩ := xC_b o k q
      have e2 : 2 ^ (k + 1) = 2 ^ k + 2 ^ k := by rw [Nat.pow_succ]; omega
      constructor
      · intro i hi
        by_cases z : o k = 0
        · have eC : nC o (k + 1) = nC o k + 1 := by rw [nC_s o q, if_pos z]
          rw [eC, Nat.pow_succ] at hi
          have hd : i % 2 ^ nC o k < 2 ^ nC o k := Nat.mod_lt _ (Nat.two_pow_pos _)
          have hb1 : i / 2 ^ nC o k < 2 := Nat.div_lt_of_lt_mul (by rw [Nat.mul_comm] at hi; rw [Nat.mul_comm]; exact hi)
          have ei : i % 2 ^ nC o k + i / 2 ^ nC o k * 2 ^ nC o k = i := by rw [Nat.mul_comm]; exact Nat.mod_add_div i _
          obtain ⟨x, x1, x2, x3⟩ := ha _ hd
          obtain ⟨r1, r2, r3, r4⟩ := cR_st q (by omega) hd x1 x2 hb1 (Or.inl z) x3
          rw [ei] at r1
          exact ⟨_, r3, r4, r1⟩
        · have eC : nC o (k + 1) = nC o k := by rw [nC_s o q, if_neg z]
          rw [eC] at hi
          obtain ⟨x, x1, x2, x3⟩ := ha i hi
          obtain ⟨r1, r2, r3, r4⟩ := cR_st (b := 0) q (by omega) hi x1 x2 (by omega) (Or.inr rfl) x3
          simp only [Nat.zero_mul, Nat.add_zero] at r1 r3 r4
          exact ⟨x, r3, r4, r1⟩
      · intro x hx
        have xl : x < 2 ^ (k + 1) := by
          have l : x &&& xC o (k + 1) ≤ xC o (k + 1) := Nat.and_le_right
          rw [show x &&& xC o (k + 1) = x from hx] at l
          have := (xC_b o (k + 1) (by omega)).1
          omega
        have ex : x % 2 ^ k + x / 2 ^ k * 2 ^ k = x := by rw [Nat.mul_comm]; exact Nat.mod_add_div x _
        have hd : x % 2 ^ k < 2 ^ k := Nat.mod_lt _ (Nat.two_pow_pos _)
        have hb1 : x / 2 ^ k < 2 := Nat.div_lt_of_lt_mul (by omega)
        have sb := sub_bt hx
        have hs : sub (x % 2 ^ k) (xC o k) := by
          apply bt_sub
          intro j
          by_cases w : j < k
          · rw [bt_mod w]
            have := sb j
            rw [xC_s o q] at this
            by_cases z : o k = 0
            · rw [if_pos z] at this
              have e := bt_lo (a := xC o k) (b := 1) w
              rw [Nat.one_mul] at e
              rw [e] at this; exact this
            · rw [if_neg z] at this; exact this
          · have l1 : 2 ^ k ≤ 2 ^ j := Nat.pow_le_pow_right (by omega) (by omega)
            rw [bt_z (n := x % 2 ^ k) (by omega)]; exact Nat.zero_le _
        obtain ⟨i, i1, i2⟩ := hb _ hs
        have hbo : o k = 0 ∨ x / 2 ^ k = 0 := by
          by_cases z : o k = 0
          · exact Or.inl z
          · refine Or.inr ?_
            have := sb k
            rw [xC_s o q, if_neg z, bt_z xb] at this
            simp only [bt] at this
            generalize x / 2 ^ k = y at this hb1 ⊢
            omega
        obtain ⟨r1, r2, r3, r4⟩ := cR_st q (by omega) i1 hd hs hb1 hbo i2
        rw [ex] at r1
        exact ⟨_, r2, r1⟩
    · have : k = 0 := by omega
      subst this
      constructor
      · intro i hi
        have : i = 0 := by have hi : i < 2 ^ 0 := hi; omega
        subst this
        exact ⟨0, by show 0 < 2 ^ 1; omega, (show 0 &&& xC o (0 + 1) = 0 from Nat.zero_and _), fun j a b => by omega, rfl⟩
      · intro x hx
        refine ⟨0, by show 0 < 2 ^ 0; omega, fun j a b => by omega, rfl⟩
theorem sh1_e {n : Nat} (h : n < 11) : ((1 : Int32) <<< (nI n &&& 31)).toNatClampNeg = 2 ^ n := by
  have p := p211 (k := n) (by omega)
  rw [sh11 n h, nI_clamp (by omega)]
theorem cut_eq {R S : RK} {wt b0 : Row} {W : Int32} {L M : LV} {lim g sp sn : Int32} {f0 : Row} (hS : RB S) (hL : LJ L M) (hRE : RE R S) (h10 : R.1 ≤ 10) (ho : o01 R.2.2.2.2.1 (R.1 + 1).toNatClampNeg) (hW : wsum wt (R.1 + 1).toNatClampNeg = W) (hg : gB W g sn) (hs : 0 ≤ sp ∧ sp ≤ 3000) (hf : ∀ k, k < 11 → f0 k = 0) :
    cutF lim R wt L g sp sn (bkR R.2.2.2.2.1 b0 (R.1 + 1).toNatClampNeg) = hmR (ctG (fun s_ => spV (spC (ctK S (inR S.2.2.2.2.1 (S.1 + 1).toNatClampNeg).1 s_) W M 601 0 601 g sp sn)) (fun s_ => cnR (inR S.2.2.2.2.1 (S.1 + 1).toNatClampNeg).1 s_ (S.1 + 1).toNatClampNeg) (inR S.2.2.2.2.1 (S.1 + 1).toNatClampNeg).1 lim ((inR S.2.2.2.2.1 (S.1 + 1).toNatClampNeg).1.toNatClampNeg + 1) (inR S.2.2.2.2.1 (S.1 + 1).toNatClampNeg).1 f0) ((inR S.2.2.2.2.1 (S.1 + 1).toNatClampNeg).2 + 1).toNatClampNeg := by
  obtain ⟨e1, e2, e3⟩ := n1_b (n := R.1) (by rw [hRE.1]; exact hS.1.1) (by rw [hRE.1]; exact hS.1.2)
  have en : R.1.toNatClampNeg ≤ 10 := (cl_le (by have := hS.1.1; rw [hRE.1]; grind) (show (0 : Int32) ≤ 10 by decide)).mpr h10
  have eI : inR S.2.2.2.2.1 (S.1 + 1).toNatClampNeg = inR R.2.2.2.2.1 (R.1 + 1).toNatClampNeg := by
    rw [← hRE.1]; exact (inR_re hRE.2.2.2.2.1).symm
  obtain ⟨K, hK⟩ : ∃ K, K = (R.1 + 1).toNatClampNeg := ⟨_, rfl⟩
  have k1 : 1 ≤ K := by omega
  have k2 : K ≤ 11 := by omega
  obtain ⟨o, eo⟩ : ∃ o, o = R.2.2.2.2.1 := ⟨_, rfl⟩
  have eS1 : (S.1 + 1).toNatClampNeg = K := by rw [hK, hRE.1]
  rw [eI, eS1, ← hK, ← eo]
  rw [← hK, ← eo] at ho
  have eC := in_C K k1 k2 ho
  obtain ⟨eb, _⟩ := bk_C (o := o) (b0 := b0) K k1 k2
  obtain ⟨xb, nb⟩ := xC_b o K k1
  obtain ⟨ca, cb⟩ := cR_all (o := o) (b0 := b0) K k1 k2
  have p := p211 k2
  rw [eC]
  dsimp only
  have cx : (nI (xC o K)).toNatClampNeg = xC o K := nI_clamp (by omega)
  rw [cx]
  -- spans of the two sides
  have key : ∀ i x, x < 2 ^ K → cR o b0 K i x → cutG lim R wt L g sp sn (bkR o b0 K).1 (bkR o b0 K).2 (nI i) = capV lim (spV (spC (ctK S (nI (xC o K)) (nI x)) W M 601 0 601 g sp sn)) := by
    intro i x hx hc
    have q : RE (R.1, R.2.1, R.2.2.1, R.2.2.2.1, setOut R.2.2.2.2.1 (bkR o b0 K).1 (nI i) (bkR o b0 K).2.toNatClampNeg, R.2.2.2.2.2.1, R.2.2.2.2.2.2.1, R.2.2.2.2.2.2.2.1, R.2.2.2.2.2.2.2.2) (ctK S (nI (xC o K)) (nI x)) := by
      obtain ⟨f1, f2, f3, hk, hou, he, hl, hh, hu⟩ := hRE
      refine ⟨f1, f2, f3, hk, fun j j1 j2 => ?_, he, hl, hh, hu⟩
      show setOut R.2.2.2.2.1 (bkR o b0 K).1 (nI i) (bkR o b0 K).2.toNatClampNeg j = ouR S.2.2.2.2.1 (nI (xC o K)) (nI x) (S.1 + 1).toNatClampNeg j
      have j2 : j < K := by rw [hK]; exact j2
      rw [eS1, eb, nI_clamp (by omega), ← eo, hc.1 j j1 j2]
      have := ouR_re hou (nI (xC o K)) (nI x) K j j1 (by rw [← hK]; exact j2)
      rw [← eo] at this
      exact this
    have hB : RB (ctK S (nI (xC o K)) (nI x)) := hS
    simp only [cutG]
    rw [runV_re q (wt2 := wt) (fun _ _ _ => rfl)]
    have hW2 : wsum wt ((ctK S (nI (xC o K)) (nI x)).1 + 1).toNatClampNeg = W := by
      show wsum wt (S.1 + 1).toNatClampNeg = W
      rw [← hRE.1]; exact hW
    exact run_e hB hL hW2 hg hs
  have hcn : ∀ x, sub x (xC o K) → ∃ c, cnR (nI (xC o K)) (nI x) K = nI c ∧ c < 11 := by
    intro x hx
    obtain ⟨m, a, b⟩ := cnR_b (nI (xC o K)) (nI x) K k1 k2
    exact ⟨m, a, by omega⟩
  simp only [cutF]
  rw [eb]
  have en1 : (nI (nC o K) + 1).toNatClampNeg = nC o K + 1 := by rw [nI_1, nI_clamp (by omega)]
  rw [en1]
  refine ls_cg _ (fun k hk => ?_)
  have ct := ct_e (F := fun s_ => spV (spC (ctK S (nI (xC o K)) s_) W M 601 0 601 g sp sn)) (cn := fun s_ => cnR (nI (xC o K)) s_ K) (m := lim) (show xC o K < 2048 by omega) hcn (xC o K) (xC o K + 1) f0 (by omega) (Nat.le_refl _) (Nat.and_self _) k (by omega)
  have cl : (if ctG (fun s_ => spV (spC (ctK S (nI (xC o K)) s_) W M 601 0 601 g sp sn)) (fun s_ => cnR (nI (xC o K)) s_ K) (nI (xC o K)) lim (xC o K + 1) (nI (xC o K)) f0 k = 0 then (1 : Int32) else 0) ≠ 0 ↔ ctG (fun s_ => spV (spC (ctK S (nI (xC o K)) s_) W M 601 0 601 g sp sn)) (fun s_ => cnR (nI (xC o K)) s_ K) (nI (xC o K)) lim (xC o K + 1) (nI (xC o K)) f0 k = 0 := by
    by_cases z : ctG (fun s_ => spV (spC (ctK S (nI (xC o K)) s_) W M 601 0 601 g sp sn)) (fun s_ => cnR (nI (xC o K)) s_ K) (nI (xC o K)) lim (xC o K + 1) (nI (xC o K)) f0 k = 0
    · rw [if_pos z]; exact ⟨fun _ => z, fun _ => by decide⟩
    · rw [if_neg z]; exact ⟨fun y => absurd rfl y, fun y => absurd y z⟩
  rw [cl, ct]
  simp only [cutE]
  rw [sh1_e (n := nC o K) (by omega)]
  have sw : swR (cutG lim R wt L g sp sn (bkR o b0 K).1 (nI (nC o K))) (nI k) (2 ^ nC o K) 0 ≠ 0 ↔ ∀ i, 0 ≤ i → i < 0 + 2 ^ nC o K → ¬ (bcF (nI i) = nI k ∧ cutG lim R wt L g sp sn (bkR o b0 K).1 (nI (nC o K)) (nI i) = (-1)) := sw_e (2 ^ nC o K) 0
  rw [sw]
  have pN : 2 ^ nC o K ≤ 1024 := (Nat.pow_le_pow_right (by omega) (by omega) : 2 ^ nC o K ≤ 2 ^ 10)
  have bp : ∀ i, i < 2 ^ nC o K → bcF (nI i) = nI (popD 16 i) := fun i hi => by rw [bcF_N (by omega), popS_D]
  constructor
  · intro h
    refine ⟨hf k (by omega), fun x hx hsx hcx => ?_⟩
    obtain ⟨i, i1, i2⟩ := cb x hsx
    have hx2 : x < 2 ^ K := by omega
    have kk := key i x hx2 i2
    rw [eb] at kk
    have n := h i (Nat.zero_le _) (by omega)
    apply cap_ne.mp
    intro z
    refine n ⟨?_, by rw [kk]; exact z⟩
    rw [bp i i1, ← i2.2]
    exact hcx
  · intro h i _ hi z
    have hi : i < 2 ^ nC o K := by omega
    obtain ⟨x, x1, x2, x3⟩ := ca i hi
    have kk := key i x x1 x3
    rw [eb] at kk
    have l : x &&& xC o K ≤ xC o K := Nat.and_le_right
    rw [show x &&& xC o K = x from x2] at l
    have w := h.2 x l x2 (by show cnR (nI (xC o K)) (nI x) K = nI k; rw [x3.2, ← bp i hi]; exact z.1)
    exact (cap_ne.mpr w) (by rw [← kk]; exact z.2)
