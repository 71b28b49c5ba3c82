/-! the reference: cars cut out -/
theorem and1 (x : Int32) : x &&& 1 = nI (bvN x % 2) := by
  apply Int32.toBitVec_inj.mp
  apply BitVec.eq_of_toNat_eq
  show (x.toBitVec &&& (1 : Int32).toBitVec).toNat = (BitVec.ofNat 32 (bvN x % 2)).toNat
  have k1 : (1 : Int32).toBitVec.toNat = 1 := rfl
  rw [BitVec.toNat_and, BitVec.toNat_ofNat, k1, Nat.and_one_is_mod]
  simp only [bvN]
  omega
theorem and1_01 (x : Int32) : x &&& 1 = 0 ∨ x &&& 1 = 1 := by
  rw [and1]
  rcases Nat.mod_two_eq_zero_or_one (bvN x) with q | q
  · rw [q]; exact Or.inl rfl
  · rw [q]; exact Or.inr rfl
theorem and_nI {n : Nat} (h : n < 2 ^ 31) (b : Int32) : nI n &&& b = nI (n &&& bvN b) := by
  apply Int32.toBitVec_inj.mp
  apply BitVec.eq_of_toNat_eq
  show (BitVec.ofNat 32 n &&& b.toBitVec).toNat = (BitVec.ofNat 32 (n &&& bvN b)).toNat
  rw [BitVec.toNat_and, BitVec.toNat_ofNat, BitVec.toNat_ofNat, Nat.mod_eq_of_lt (by omega)]
  have : n &&& bvN b ≤ n := Nat.and_le_left
  rw [Nat.mod_eq_of_lt (by omega)]
  rfl
theorem and_le0 {a b : Int32} (h : 0 ≤ a) : 0 ≤ a &&& b ∧ (a &&& b).toNatClampNeg ≤ a.toNatClampNeg := by
  have e := nI_cl h
  have l := cl_toInt h
  have l2 := Int32.toInt_lt a
  have hn : a.toNatClampNeg < 2 ^ 31 := by omega
  have q : a &&& b = nI (a.toNatClampNeg &&& bvN b) := by rw [← and_nI hn, e]
  have q2 : a.toNatClampNeg &&& bvN b ≤ a.toNatClampNeg := Nat.and_le_left
  rw [q]
  refine ⟨nI_le (a := 0) (Nat.zero_le _) (by omega), ?_⟩
  rw [nI_clamp (by omega)]
  exact q2
theorem and_dn {s i : Int32} (h : 0 < s) : 0 ≤ (s - 1) &&& i ∧ ((s - 1) &&& i).toNatClampNeg < s.toNatClampNeg := by
  have a := and_le0 (a := s - 1) (b := i) (by grind)
  have b := cl_pred (c := s) (by grind)
  have c := cl_pos (x := s) (by grind)
  exact ⟨a.1, by omega⟩
/-- the cars that are in, as bits, and how many: of the first k - 1 -/
def inR (out : Row) : Nat → Int32 × Int32
  | 0 => (0, 0)
  | 1 => (0, 0)
  | k + 2 => if out (k + 1) = 1 then inR out (k + 1) else ((inR out (k + 1)).1 ||| 1 <<< (nI (k + 1) &&& 31), (inR out (k + 1)).2 + 1)
theorem inR_s (out : Row) {k : Nat} (h : 1 ≤ k) : inR out (k + 1) = if out k = 1 then inR out k else ((inR out k).1 ||| 1 <<< (nI k &&& 31), (inR out k).2 + 1) := by
  obtain ⟨d, rfl⟩ : ∃ d, k = d + 1 := ⟨k - 1, by omega⟩
  rfl
theorem sh11 : ∀ k : Nat, k < 11 → (1 : Int32) <<< (nI k &&& 31) = nI (2 ^ k) := by decide +kernel
/-- bits below 2 ^ k -/
theorem inR_b (out : Row) : ∀ k : Nat, 1 ≤ k → k ≤ 11 → ∃ x m : Nat, inR out k = (nI x, nI m) ∧ x < 2 ^ k ∧ m < k := by
  intro k
  induction k with
  | zero => intro h; omega
  | succ k ih =>
    intro _ h2
    by_cases q : 1 ≤ k
    · obtain ⟨x, m, e, hx, hm⟩ := ih q (by omega)
      rw [inR_s _ q, e]
      split
      · exact ⟨x, m, rfl, Nat.lt_of_lt_of_le hx (Nat.pow_le_pow_right (by omega) (by omega)), by omega⟩
      · refine ⟨x ||| 2 ^ k, m + 1, ?_, ?_, by omega⟩
        · show (nI x ||| 1 <<< (nI k &&& 31), nI m + 1) = _
          rw [sh11 k (by omega), nI_or, nI_1]
        · exact Nat.or_lt_two_pow (Nat.lt_of_lt_of_le hx (Nat.pow_le_pow_right (by omega) (by omega))) (Nat.pow_lt_pow_right (by omega) (by omega))
    · have : k = 0 := by omega
      subst this
      exact ⟨0, 0, rfl, by omega, by omega⟩
theorem inR_q (out : Row) {n : Int32} (h1 : 1 ≤ n) (h2 : n ≤ 10) : 0 ≤ (inR out (n + 1).toNatClampNeg).1 ∧ (inR out (n + 1).toNatClampNeg).1 < 2048 ∧ 0 ≤ (inR out (n + 1).toNatClampNeg).2 ∧ (inR out (n + 1).toNatClampNeg).2 ≤ 10 := by
  have e := cl_succ (c := n) (by grind) (by grind)
  have e2 : n.toNatClampNeg ≤ 10 := (cl_le (by grind) (show (0 : Int32) ≤ 10 by decide)).mpr h2
  obtain ⟨x, m, q, hx, hm⟩ := inR_b out (n + 1).toNatClampNeg (by omega) (by omega)
  have hx2 : x < 2 ^ 11 := Nat.lt_of_lt_of_le hx (Nat.pow_le_pow_right (by omega) (by omega))
  rw [q]
  refine ⟨nI_le (a := 0) (Nat.zero_le _) (by omega), ?_, nI_le (a := 0) (Nat.zero_le _) (by omega), nI_le (b := 10) (by omega) (by decide)⟩
  show nI x < 2048
  rw [in_toInt, nI_toInt (by omega)]
  have k : (2048 : Int32).toInt = 2048 := rfl
  rw [k]; omega
def ouR (o : Row) (i s : Int32) (c : Nat) : Row := fun k => if (1 ≤ k ∧ k < c) ∧ ¬ (i >>> (nI k &&& 31)) &&& 1 = 0 then (s >>> (nI k &&& 31)) &&& 1 else o k
theorem ouR_1 (o : Row) (i s : Int32) : ouR o i s 1 = o := by funext k; simp only [ouR]; rw [if_neg (by omega)]
theorem ouR_y (o : Row) {i s : Int32} {c : Nat} (h : 1 ≤ c) (hb : ¬ (i >>> (nI c &&& 31)) &&& 1 = 0) : upd (ouR o i s c) c ((s >>> (nI c &&& 31)) &&& 1) = ouR o i s (c + 1) := by
  funext k
  by_cases q : k = c
  · subst q; rw [upd_s]; simp only [ouR]; rw [if_pos ⟨⟨h, by omega⟩, hb⟩]
  · rw [upd_n _ _ q]; simp only [ouR]
    by_cases z : (1 ≤ k ∧ k < c) ∧ ¬ (i >>> (nI k &&& 31)) &&& 1 = 0
    · rw [if_pos z, if_pos ⟨⟨z.1.1, by omega⟩, z.2⟩]
    · rw [if_neg z, if_neg (fun y => z ⟨⟨y.1.1, by omega⟩, y.2⟩)]
theorem ouR_n (o : Row) {i s : Int32} {c : Nat} (hb : (i >>> (nI c &&& 31)) &&& 1 = 0) : ouR o i s c = ouR o i s (c + 1) := by
  funext k
  simp only [ouR]
  by_cases z : (1 ≤ k ∧ k < c) ∧ ¬ (i >>> (nI k &&& 31)) &&& 1 = 0
  · rw [if_pos z, if_pos ⟨⟨z.1.1, by omega⟩, z.2⟩]
  · rw [if_neg z, if_neg ?_]
    intro y
    by_cases q : k = c
    · subst q; exact y.2 hb
    · exact z ⟨⟨y.1.1, by omega⟩, y.2⟩
def cnR (i s : Int32) : Nat → Int32
  | 0 => 0
  | 1 => 0
  | k + 2 => if (i >>> (nI (k + 1) &&& 31)) &&& 1 = 0 then cnR i s (k + 1) else cnR i s (k + 1) + ((s >>> (nI (k + 1) &&& 31)) &&& 1)
theorem cnR_s (i s : Int32) {k : Nat} (h : 1 ≤ k) : cnR i s (k + 1) = if (i >>> (nI k &&& 31)) &&& 1 = 0 then cnR i s k else cnR i s k + ((s >>> (nI k &&& 31)) &&& 1) := by
  obtain ⟨d, rfl⟩ : ∃ d, k = d + 1 := ⟨k - 1, by omega⟩
  rfl
theorem cnR_b (i s : Int32) : ∀ k : Nat, 1 ≤ k → k ≤ 11 → ∃ m : Nat, cnR i s k = nI m ∧ m < k := by
  intro k
  induction k with
  | zero => intro h; omega
  | succ k ih =>
    intro _ h2
    by_cases q : 1 ≤ k
    · obtain ⟨m, e, hm⟩ := ih q (by omega)
      rw [cnR_s _ _ q, e]
      split
      · exact ⟨m, rfl, by omega⟩
      · rcases and1_01 (s >>> (nI k &&& 31)) with z | z
        · rw [z]; exact ⟨m, by show nI m + 0 = nI m; rw [Int32.add_zero], by omega⟩
        · rw [z]; exact ⟨m + 1, by rw [nI_1], by omega⟩
    · have : k = 0 := by omega
      subst this
      exact ⟨0, rfl, by omega⟩
theorem cnR_q (i s : Int32) {n : Int32} (h1 : 1 ≤ n) (h2 : n ≤ 10) : 0 ≤ cnR i s (n + 1).toNatClampNeg ∧ cnR i s (n + 1).toNatClampNeg < 11 := by
  have e := cl_succ (c := n) (by grind) (by grind)
  have e2 : n.toNatClampNeg ≤ 10 := (cl_le (by grind) (show (0 : Int32) ≤ 10 by decide)).mpr h2
  obtain ⟨m, q, hm⟩ := cnR_b i s (n + 1).toNatClampNeg (by omega) (by omega)
  rw [q]
  refine ⟨nI_le (a := 0) (Nat.zero_le _) (by omega), ?_⟩
  rw [in_toInt, nI_toInt (by omega)]
  have k : (11 : Int32).toInt = 11 := rfl
  rw [k]; omega
/-- a row is the first one but at the cars that are in -/
def ouE (n i : Int32) (o o2 : Row) : Prop := ∀ k, ¬ ((1 ≤ k ∧ k < (n + 1).toNatClampNeg) ∧ ¬ (i >>> (nI k &&& 31)) &&& 1 = 0) → o2 k = o k
theorem ouE_r {n i : Int32} (o : Row) : ouE n i o o := fun _ _ => rfl
theorem ouE_e {n i : Int32} {o o2 : Row} (h : ouE n i o o2) (s : Int32) : ouR o2 i s (n + 1).toNatClampNeg = ouR o i s (n + 1).toNatClampNeg := by
  funext k
  simp only [ouR]
  by_cases z : (1 ≤ k ∧ k < (n + 1).toNatClampNeg) ∧ ¬ (i >>> (nI k &&& 31)) &&& 1 = 0
  · rw [if_pos z, if_pos z]
  · rw [if_neg z, if_neg z]; exact h k z
theorem ouE_o {n i : Int32} (o : Row) (s : Int32) : ouE n i o (ouR o i s (n + 1).toNatClampNeg) := by
  intro k z
  simp only [ouR]; rw [if_neg z]
def ctS (F cn : Int32 → Int32) (m s : Int32) (f : Row) : Row := if f (cn s).toNatClampNeg = 0 ∧ ¬ (F s ≠ (-1) ∧ F s ≤ m) then upd f (cn s).toNatClampNeg 1 else f
def ctG (F cn : Int32 → Int32) (i m : Int32) : Nat → Int32 → Row → Row
  | 0, _, f => f
  | n + 1, s, f => if 0 < s then ctG F cn i m n ((s - 1) &&& i) (ctS F cn m s f) else ctS F cn m s f
theorem ct_go {F cn : Int32 → Int32} {i m s : Int32} {n : Nat} {f f2 : Row} (hn : 1 ≤ n) (h : 0 < s) (e : f2 = ctS F cn m s f) : ctG F cn i m n s f = ctG F cn i m (n - 1) ((s - 1) &&& i) f2 := by
  obtain ⟨k, rfl⟩ : ∃ k, n = k + 1 := ⟨n - 1, by omega⟩
  simp only [ctG]; rw [if_pos h, ← e]; rfl
theorem ct_st {F cn : Int32 → Int32} {i m s : Int32} {n : Nat} {f f2 : Row} (hn : 1 ≤ n) (h : ¬ 0 < s) (e : f2 = ctS F cn m s f) : ctG F cn i m n s f = f2 := by
  obtain ⟨k, rfl⟩ : ∃ k, n = k + 1 := ⟨n - 1, by omega⟩
  simp only [ctG]; rw [if_neg h, ← e]
abbrev hmR (f : Row) : Nat → Int32 := lsR (fun k => if f k = 0 then 1 else 0)
theorem hm_y {f : Row} {k : Int32} (h : 0 ≤ k) (h2 : k < 100) (e : f k.toNatClampNeg = 0) : hmR f (k + 1).toNatClampNeg = k := by
  rw [cl_succ h (by grind)]
  simp only [lsR]
  rw [if_pos (by rw [if_pos e]; decide), nI_cl h]
theorem hm_n {f : Row} {k : Int32} (h : 0 ≤ k) (h2 : k < 100) (e : ¬ f k.toNatClampNeg = 0) : hmR f (k + 1).toNatClampNeg = hmR f k.toNatClampNeg := by
  rw [cl_succ h (by grind)]
  simp only [lsR]
  rw [if_neg (by rw [if_neg e]; decide)]
/-- the train with some cars out -/
def ctK (R : RK) (i s : Int32) : RK := (R.1, R.2.1, R.2.2.1, R.2.2.2.1, ouR R.2.2.2.2.1 i s (R.1 + 1).toNatClampNeg, R.2.2.2.2.2)
theorem ouR_re {n : Int32} {o o2 : Row} (h : re n o o2) (i s : Int32) (c : Nat) : re n (ouR o i s c) (ouR o2 i s c) := by
  intro k h1 h2
  simp only [ouR]
  rw [h k h1 h2]
theorem inR_re {n : Int32} {o o2 : Row} (h : re n o o2) : inR o (n + 1).toNatClampNeg = inR o2 (n + 1).toNatClampNeg := by
  have e : ∀ m : Nat, m ≤ (n + 1).toNatClampNeg → inR o m = inR o2 m := by
    intro m
    induction m with
    | zero => intro _; rfl
    | succ m ih =>
      intro hm
      by_cases q : 1 ≤ m
      · rw [inR_s _ q, inR_s _ q, ih (by omega), h m q (by omega)]
      · have : m = 0 := by omega
        subst this; rfl
  exact e _ (Nat.le_refl _)
theorem spCut {n full fed : Int32} (h : 1 ≤ n) (h2 : n ≤ 16) (a b c d e f t7 o ou p t y : Row) (i s wt : Int32) (L : LV) (df pa pf g sp sn : Int32) (hE : ouE n i (tkR b t7 64 o n.toNatClampNeg) ou) :
    SA (n + 1).toNatClampNeg (spG (n, full, fed, tkR a t7 0 o n.toNatClampNeg, ouR ou i s (n + 1).toNatClampNeg, tkR c t7 96 o n.toNatClampNeg, tkR d t7 128 o n.toNatClampNeg, tkR e t7 160 o n.toNatClampNeg, tkR f t7 192 o n.toNatClampNeg) wt L df pa pf g sn 600 (sp0 (n, full, fed, tkR a t7 0 o n.toNatClampNeg, ouR ou i s (n + 1).toNatClampNeg, tkR c t7 96 o n.toNatClampNeg, tkR d t7 128 o n.toNatClampNeg, tkR e t7 160 o n.toNatClampNeg, tkR f t7 192 o n.toNatClampNeg) sp p t y)) (spC (ctK (rkT n full fed t7 o) i s) wt L df pa pf g sp sn) := by
  rw [ouE_e hE]
  obtain ⟨e1, e2, e3, hk, ho, he, hl, hs, hu⟩ := rkT_re (full := full) (fed := fed) h h2 a b c d e f t7 o
  have q : RE (n, full, fed, tkR a t7 0 o n.toNatClampNeg, ouR (tkR b t7 64 o n.toNatClampNeg) i s (n + 1).toNatClampNeg, tkR c t7 96 o n.toNatClampNeg, tkR d t7 128 o n.toNatClampNeg, tkR e t7 160 o n.toNatClampNeg, tkR f t7 192 o n.toNatClampNeg) (ctK (rkT n full fed t7 o) i s) := ⟨e1, e2, e3, hk, ouR_re ho i s _, he, hl, hs, hu⟩
  rw [← spC_re q]
  exact spC_e h h2 wt L df pa pf g sp sn p t y
