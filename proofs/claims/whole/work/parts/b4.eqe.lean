/-! both sides: the train, its orders -/
/-- the class's rows against the reference's -/
def TJ (n : Int32) (ki wt ou ke le ho sk t7 : Row) : Prop := ∀ j, j < n.toNatClampNeg → ki (j + 1) = t7 j ∧ wt (j + 1) = t7 (32 + j) ∧ ou (j + 1) = t7 (64 + j) ∧ ke (j + 1) = t7 (96 + j) ∧ le (j + 1) = t7 (128 + j) ∧ ho (j + 1) = t7 (160 + j) ∧ sk (j + 1) = t7 (192 + j)
def TB (n : Int32) (t7 : Row) : Prop := ∀ j, j < n.toNatClampNeg → (0 ≤ t7 j ∧ t7 j ≤ 2) ∧ (10 ≤ t7 (32 + j) ∧ t7 (32 + j) ≤ 99) ∧ (t7 (64 + j) = 0 ∨ t7 (64 + j) = 1) ∧ (0 ≤ t7 (96 + j) ∧ t7 (96 + j) ≤ 3) ∧ (0 ≤ t7 (128 + j) ∧ t7 (128 + j) ≤ 99) ∧ (0 ≤ t7 (160 + j) ∧ t7 (160 + j) ≤ 100)
/-- an order of cars 0 to n - 1 -/
def oB (n : Nat) (o : Row) : Prop := ∀ k, k < n → 0 ≤ o k ∧ o k < nI n
/-- the same order, by numbers from 1 on -/
def oR (n : Nat) (o p : Row) : Prop := ∀ k, k < n → o k = p k + 1
theorem oB_cl {n : Nat} {o : Row} (hn : n ≤ 100) (h : oB n o) {k : Nat} (hk : k < n) : (o k).toNatClampNeg < n := by
  obtain ⟨a, b⟩ := h k hk
  have e := (cl_lt a (nI_le (a := 0) (Nat.zero_le _) (by omega))).mpr b
  rwa [nI_clamp (by omega)] at e
theorem oR_cl {n : Nat} {o p : Row} (hn : n ≤ 100) (h : oR n o p) (hb : oB n p) {k : Nat} (hk : k < n) : (o k).toNatClampNeg = (p k).toNatClampNeg + 1 := by
  rw [h k hk]
  obtain ⟨a, b⟩ := hb k hk
  have c : p k < 1000 := by
    have : nI n ≤ 100 := nI_le (b := 100) hn (by omega)
    grind
  exact cl_succ a (by grind)
theorem lay1 {n : Nat} {f t7 o p : Row} {off : Nat} (hn : n ≤ 100) (hf : ∀ j, j < n → f (j + 1) = t7 (off + j)) (h : oR n o p) (hb : oB n p) : ∀ k, 1 ≤ k → k < n + 1 → layR (fun _ => 0) f o n k = tkR (fun _ => 0) t7 off p n k := by
  intro k h1 h2
  simp only [layR, tkR]
  rw [if_pos ⟨h1, h2⟩, if_pos ⟨h1, h2⟩, oR_cl hn h hb (show k - 1 < n by omega)]
  exact hf _ (oB_cl hn hb (by omega))
theorem lay_RE {n full fed : Int32} {ki wt ou ke le ho sk t7 o p : Row} (h1 : 1 ≤ n) (h2 : n ≤ 16) (hT : TJ n ki wt ou ke le ho sk t7) (h : oR n.toNatClampNeg o p) (hb : oB n.toNatClampNeg p) : RE (layK (n, full, fed, ki, ou, ke, le, ho, sk) o) (rkT n full fed t7 p) := by
  obtain ⟨e1, e2, e3⟩ := n1_b h1 h2
  have g : ∀ {f : Row} {off : Nat}, (∀ j, j < n.toNatClampNeg → f (j + 1) = t7 (off + j)) → re n (layR (fun _ => 0) f o n.toNatClampNeg) (tkR (fun _ => 0) t7 off p n.toNatClampNeg) := by
    intro f off hf k k1 k2
    exact lay1 (by omega) hf h hb k k1 (by omega)
  simp only [RE, layK, rkT]
  exact ⟨trivial, trivial, trivial, g (off := 0) (fun j hj => by rw [Nat.zero_add]; exact (hT j hj).1), g (fun j hj => (hT j hj).2.2.1), g (fun j hj => (hT j hj).2.2.2.1), g (fun j hj => (hT j hj).2.2.2.2.1), g (fun j hj => (hT j hj).2.2.2.2.2.1), g (fun j hj => (hT j hj).2.2.2.2.2.2)⟩
theorem wg_e {f t7 o : Row} {n : Nat} : ∀ m, m ≤ n → (∀ k, 1 ≤ k → k < n + 1 → f k = tkR (fun _ => 0) t7 32 o n k) → wsum f (m + 1) = wgR t7 o m := by
  intro m
  induction m with
  | zero => intro _ _; rfl
  | succ m ih =>
    intro hm h
    rw [wsum_s f (show 1 ≤ m + 1 by omega), ih (by omega) h, h (m + 1) (by omega) (by omega)]
    simp only [wgR, tkR]
    rw [if_pos (by omega), Nat.add_sub_cancel]
theorem lay_W {n : Int32} {ki wt ou ke le ho sk t7 o p : Row} (h1 : 1 ≤ n) (h2 : n ≤ 16) (hT : TJ n ki wt ou ke le ho sk t7) (h : oR n.toNatClampNeg o p) (hb : oB n.toNatClampNeg p) : wsum (layR (fun _ => 0) wt o n.toNatClampNeg) (n + 1).toNatClampNeg = wgR t7 p n.toNatClampNeg := by
  obtain ⟨e1, e2, e3⟩ := n1_b h1 h2
  rw [e1]
  exact wg_e _ (Nat.le_refl _) (lay1 (by omega) (fun j hj => (hT j hj).2.1) h hb)
theorem wg_b {n : Int32} {t7 p : Row} (h1 : 1 ≤ n) (h2 : n ≤ 16) (hB : TB n t7) (hb : oB n.toNatClampNeg p) : 0 < (wgR t7 p n.toNatClampNeg).toInt ∧ (wgR t7 p n.toNatClampNeg).toInt ≤ 2000 := by
  obtain ⟨e1, e2, e3⟩ := n1_b h1 h2
  have k0 : (10 : Int32).toInt = 10 := rfl
  have k9 : (99 : Int32).toInt = 99 := rfl
  have key : ∀ m : Nat, m ≤ n.toNatClampNeg → 90 ≤ (wgR t7 p m).toInt ∧ (wgR t7 p m).toInt ≤ 90 + 99 * m := by
    intro m
    induction m with
    | zero => intro _; exact (show 90 ≤ (90 : Int32).toInt ∧ (90 : Int32).toInt ≤ 90 + 99 * ((0 : Nat) : Int) by decide)
    | succ m ih =>
      intro hm
      obtain ⟨a, b⟩ := ih (by omega)
      have c := ti_in (hB _ (oB_cl (by omega) hb (show m < n.toNatClampNeg by omega))).2.1
      rw [k0, k9] at c
      simp only [wgR]
      rw [ti_add a b c.1 c.2 (by omega) (by omega)]
      omega
  have := key _ (Nat.le_refl _)
  omega
theorem rk_B {n full fed : Int32} {t7 p : Row} (h1 : 1 ≤ n) (h2 : n ≤ 16) (hf : 0 ≤ full ∧ full ≤ 900) (he : 0 ≤ fed ∧ fed ≤ 99) (hB : TB n t7) (hb : oB n.toNatClampNeg p) : RB (rkT n full fed t7 p) := by
  obtain ⟨e1, e2, e3⟩ := n1_b h1 h2
  refine ⟨⟨h1, h2⟩, hf, he, fun k k1 k2 => ?_⟩
  have k2 : k < n.toNatClampNeg + 1 := by rw [← e1]; exact k2
  have q := hB _ (oB_cl (by omega) hb (show k - 1 < n.toNatClampNeg by omega))
  simp only [rkT, tkR]
  rw [if_pos ⟨k1, k2⟩, if_pos ⟨k1, k2⟩, if_pos ⟨k1, k2⟩, if_pos ⟨k1, k2⟩, Nat.zero_add]
  exact ⟨q.1, q.2.2.2.1, q.2.2.2.2.1, q.2.2.2.2.2⟩
def asT (a : Row) : Prop := ∀ k, k < 16 → a k = nI k
theorem as_B {n : Int32} {a : Row} (h1 : 1 ≤ n) (h2 : n ≤ 16) (h : asT a) : oB n.toNatClampNeg a := by
  obtain ⟨e1, e2, e3⟩ := n1_b h1 h2
  intro k hk
  rw [h k (by omega)]
  exact ⟨nI_le (a := 0) (Nat.zero_le _) (by omega), (nI_ltq (by omega) (by omega)).mpr hk⟩
theorem rk_RE {n full fed : Int32} {ki wt ou ke le ho sk t7 a : Row} (h1 : 1 ≤ n) (h2 : n ≤ 16) (hT : TJ n ki wt ou ke le ho sk t7) (h : asT a) : RE (n, full, fed, ki, ou, ke, le, ho, sk) (rkT n full fed t7 a) := by
  obtain ⟨e1, e2, e3⟩ := n1_b h1 h2
  have g : ∀ {f : Row} {off : Nat}, (∀ j, j < n.toNatClampNeg → f (j + 1) = t7 (off + j)) → re n f (tkR (fun _ => 0) t7 off a n.toNatClampNeg) := by
    intro f off hf k k1 k2
    simp only [tkR]
    rw [if_pos ⟨k1, by omega⟩, h (k - 1) (by omega), nI_clamp (by omega), ← hf (k - 1) (by omega)]
    congr 1; omega
  simp only [RE, rkT]
  exact ⟨trivial, trivial, trivial, g (off := 0) (fun j hj => by rw [Nat.zero_add]; exact (hT j hj).1), g (fun j hj => (hT j hj).2.2.1), g (fun j hj => (hT j hj).2.2.2.1), g (fun j hj => (hT j hj).2.2.2.2.1), g (fun j hj => (hT j hj).2.2.2.2.2.1), g (fun j hj => (hT j hj).2.2.2.2.2.2)⟩
theorem rk_W {n : Int32} {ki wt ou ke le ho sk t7 a : Row} (h1 : 1 ≤ n) (h2 : n ≤ 16) (hT : TJ n ki wt ou ke le ho sk t7) (h : asT a) : wsum wt (n + 1).toNatClampNeg = wgR t7 a n.toNatClampNeg := by
  obtain ⟨e1, e2, e3⟩ := n1_b h1 h2
  rw [e1]
  refine wg_e _ (Nat.le_refl _) (fun k k1 k2 => ?_)
  simp only [tkR]
  rw [if_pos ⟨k1, k2⟩, h (k - 1) (by omega), nI_clamp (by omega), ← (hT (k - 1) (by omega)).2.1]
  congr 1; omega
/-! next orders side by side -/
def shB (n : Nat) (o p : Row) : Prop := ∀ k, k < n → o k = p k + 1 ∧ 0 ≤ p k ∧ p k < 100
theorem sh_lt {n : Nat} {o p : Row} (h : shB n o p) {i j : Nat} (hi : i < n) (hj : j < n) : o i < o j ↔ p i < p j := by
  obtain ⟨a1, a2, a3⟩ := h i hi
  obtain ⟨b1, b2, b3⟩ := h j hj
  rw [a1, b1]
  constructor <;> intro q <;> grind
theorem lo_sh {n : Nat} {o p : Row} (h : shB n o p) : ∀ m : Nat, m < n → loR o m = loR p m := by
  intro m
  induction m with
  | zero => intro _; rfl
  | succ m ih =>
    intro hm
    simp only [loR]
    rw [ih (by omega)]
    have e := sh_lt h (i := m + 1) (j := m) hm (by omega)
    by_cases q : p (m + 1) < p m
    · rw [if_pos q, if_pos (e.mpr q)]
    · rw [if_neg q, if_neg (fun z => q (e.mp z))]
theorem hi_sh {n lo : Nat} {o p : Row} (h : shB n o p) (hl : lo < n) : ∀ m : Nat, m < n → hiR o lo m = hiR p lo m := by
  intro m
  induction m with
  | zero => intro _; rfl
  | succ m ih =>
    intro hm
    simp only [hiR]
    rw [ih (by omega)]
    have e := sh_lt h (i := m + 1) (j := lo) hm hl
    by_cases q : lo < m + 1 ∧ p (m + 1) < p lo
    · rw [if_pos q, if_pos ⟨q.1, e.mpr q.2⟩]
    · rw [if_neg q, if_neg (fun z => q ⟨z.1, e.mp z.2⟩)]
theorem oR_upd {n : Nat} {o p : Row} (h : oR n o p) {i : Nat} {x y : Int32} (e : x = y + 1) : oR n (upd o i x) (upd p i y) := by
  intro k hk
  by_cases q : k = i
  · subst q; rw [upd_s, upd_s]; exact e
  · rw [upd_n _ _ q, upd_n _ _ q]; exact h k hk
theorem oR_swp {n : Nat} {o p : Row} (h : oR n o p) {i j : Nat} (hi : i < n) (hj : j < n) : oR n (swp o i j) (swp p i j) := oR_upd (oR_upd h (h j hj)) (h i hi)
theorem oR_rv {n lo : Nat} : ∀ (m i : Nat) {o p : Row}, 1 ≤ i → oR n o p → oR n (rvR lo n m i o) (rvR lo n m i p) := by
  intro m
  induction m with
  | zero => intro i o p _ h; exact h
  | succ m ih =>
    intro i o p hi h
    by_cases q : lo + i < n - i
    · rw [rvR_go q, rvR_go q]; exact ih _ (by omega) (oR_swp h (by omega) (by omega))
    · rw [rvR_stop q, rvR_stop q]; exact h
theorem nx_sh {n : Nat} {o p : Row} (hn : 1 ≤ n) (hn6 : n ≤ 100) (h : oR n o p) (hb : oB n p) : (nxt o n).2 = (nxt p n).2 ∧ oR n (nxt o n).1 (nxt p n).1 := by
  have s : shB n o p := fun k hk => ⟨h k hk, (hb k hk).1, by
    have a := (hb k hk).2
    have : nI n ≤ 100 := nI_le (b := 100) hn6 (by omega)
    grind⟩
  have e1 := lo_sh s (n - 1) (by omega)
  have b := loR_le p (n - 1)
  have e2 := hi_sh (lo := loR p (n - 1) - 1) s (by omega) (n - 1) (by omega)
  have c := hiR_le p (loR p (n - 1) - 1) (n - 1)
  simp only [nxt]
  rw [e1, e2]
  split
  · exact ⟨rfl, h⟩
  · exact ⟨rfl, oR_rv _ _ (Nat.le_refl _) (oR_swp h (by omega) (by omega))⟩
theorem cp_o {n : Nat} {o p b c : Row} (hn : n ≤ 6) (h : oR n o p) : oR n (va_cpy o b 0 0 6) (hoR c p n) := by
  intro k hk
  simp only [va_cpy, hoR]
  rw [if_pos ⟨Nat.zero_le _, by omega⟩, if_pos hk]
  simp only [Nat.sub_zero, Nat.zero_add]
  exact h k hk
/-- spans of orders, both sides -/
def vF (n : Nat) (F : Row → Int32 → Int32) (V : Row → Int32) : Prop := ∀ o p, oR n o p → oB n p → (∀ lim, F o lim = capV lim (V p)) ∧ (V p = (-1) ∨ (0 ≤ V p ∧ V p ≤ 16200000))
def fO (l : Int32) : Int32 := if l = (-1) then FARC else l
theorem lst_e {n : Nat} {F : Row → Int32 → Int32} {V : Row → Int32} (hn : 1 ≤ n) (hn6 : n ≤ 6) (hF : vF n F V) : ∀ (m f : Nat) {o p : Row} {l : Int32} {b c : Row}, m ≤ f → stO n m p → oR n o p → (l = (-1) ∨ (0 ≤ l ∧ l ≤ 16200000)) → oR n b c →
    fO (lstR F n f o l b).1 = (ordG V n 0 m p (fO l) c).1 ∧ ((lstR F n f o l b).1 = (-1) ∨ (0 ≤ (lstR F n f o l b).1 ∧ (lstR F n f o l b).1 ≤ 16200000)) ∧ oR n (lstR F n f o l b).2 (ordG V n 0 m p (fO l) c).2.1 := by
  intro m
  induction m with
  | zero => intro f o p l b c _ h; have := stO_1 h; omega
  | succ m ih =>
    intro f o p l b c hf hs h hl hb
    obtain ⟨f, rfl⟩ : ∃ k, f = k + 1 := ⟨f - 1, by omega⟩
    have hB := stO_b hn6 hs
    obtain ⟨hc, hV⟩ := hF o p h hB
    obtain ⟨n1, n2⟩ := nx_sh hn (by omega) h hB
    have hs2 : ¬ (nxt p n).2 = 0 → stO n m (nxt p n).1 := fun q => (stO_n hn hs q).2
    generalize hv : V p = v at hc hV
    have ev : ∀ lim, F o lim = capV lim v := hc
    obtain ⟨v9, ev9⟩ : ∃ v9, v9 = (if V p = (-1) then FARC else V p) := ⟨_, rfl⟩
    have ev8 : v9 = (if v = (-1) then FARC else v) := by rw [ev9, hv]
    -- does this order count?
    have tk : capV (if l = (-1) then NOL else l - 1) v = (-1) ↔ ¬ v9 < fO l := by
      rw [ev8]
      simp only [capV, fO]
      have nl := NOL_le v
      by_cases q : v = (-1)
      · rw [if_neg (fun z => z.1 q), if_pos q]
        refine ⟨fun _ => ?_, fun _ => rfl⟩
        by_cases z : l = (-1)
        · rw [if_pos z]; exact Int32.not_lt.mpr (Int32.le_refl _)
        · rw [if_neg z]
          have : 0 ≤ l ∧ l ≤ 16200000 := hl.resolve_left z
          intro y
          have : (1000000000 : Int32) < l := y
          grind
      · rw [if_neg q]
        have hv2 : 0 ≤ v ∧ v ≤ 16200000 := hV.resolve_left q
        by_cases z : l = (-1)
        · rw [if_pos z, if_pos z, if_pos ⟨q, nl⟩]
          constructor
          · intro y; exact absurd y q
          · intro y; exact absurd (show v < (1000000000 : Int32) by grind) y
        · rw [if_neg z, if_neg z]
          have hl2 : 0 ≤ l ∧ l ≤ 16200000 := hl.resolve_left z
          by_cases y : v ≤ l - 1
          · rw [if_pos ⟨q, y⟩]
            constructor
            · intro u; exact absurd u q
            · intro u; exact absurd (show v < l by grind) u
          · rw [if_neg (fun u => y u.2)]
            exact ⟨fun _ u => y (by grind), fun _ => rfl⟩
    have tkv : v9 < fO l → capV (if l = (-1) then NOL else l - 1) v = v ∧ v9 = v ∧ 0 ≤ v ∧ v ≤ 16200000 := by
      intro q
      have q2 : ¬ capV (if l = (-1) then NOL else l - 1) v = (-1) := fun z => (tk.mp z) q
      have q3 := cap_ne.mp q2
      refine ⟨if_pos q3, ?_, hV.resolve_left q3.1⟩
      rw [ev8, if_neg q3.1]
    -- the new state
    obtain ⟨l2, el2⟩ : ∃ l2, l2 = (if F o (if l = (-1) then NOL else l - 1) = (-1) then l else F o (if l = (-1) then NOL else l - 1)) := ⟨_, rfl⟩
    obtain ⟨b2, eb2⟩ : ∃ b2, b2 = (if F o (if l = (-1) then NOL else l - 1) = (-1) then b else va_cpy o b 0 0 6) := ⟨_, rfl⟩
    obtain ⟨c2, ec2⟩ : ∃ c2, c2 = (if (if (0 : Int32) = 0 then v9 < fO l else fO l < v9) then hoR c p n else c) := ⟨_, rfl⟩
    have st : (l2 = (-1) ∨ (0 ≤ l2 ∧ l2 ≤ 16200000)) ∧ fO l2 = (if (if (0 : Int32) = 0 then v9 < fO l else fO l < v9) then v9 else fO l) ∧ oR n b2 c2 := by
      rw [el2, eb2, ec2, ev]
      have tq : (if (0 : Int32) = 0 then v9 < fO l else fO l < v9) ↔ v9 < fO l := by rw [if_pos rfl]
      by_cases q : v9 < fO l
      · obtain ⟨t1, t2, t3, t4⟩ := tkv q
        have t5 : ¬ capV (if l = (-1) then NOL else l - 1) v = (-1) := fun z => (tk.mp z) q
        rw [if_neg t5, if_neg t5, if_pos (tq.mpr q), if_pos (tq.mpr q), t1, t2]
        refine ⟨Or.inr ⟨t3, t4⟩, ?_, cp_o hn6 h⟩
        simp only [fO]
        rw [if_neg (by intro z; rw [z] at t3; exact absurd t3 (by decide))]
      · rw [if_pos (tk.mpr q), if_pos (tk.mpr q), if_neg (fun z => q (tq.mp z)), if_neg (fun z => q (tq.mp z))]
        exact ⟨hl, rfl, hb⟩
    obtain ⟨s1, s2, s3⟩ := st
    by_cases q : (nxt p n).2 = 0
    · have eC : lstR F n (f + 1) o l b = (l2, b2) := by
        simp only [lstR]
        rw [if_pos (n1.trans q), el2, eb2]
        by_cases z : F o (if l = (-1) then NOL else l - 1) = (-1)
        · rw [if_pos z, if_pos z, if_pos z]
        · rw [if_neg z, if_neg z, if_neg z]
      have eR := ord_e (F := V) (n := n) (wh := 0) (m := m + 1) (o := p) (l := fO l) (b := c) (by omega) q ev9 s2 ec2
      rw [eC, eR]
      exact ⟨rfl, s1, s3⟩
    · have eC : lstR F n (f + 1) o l b = lstR F n f (nxt o n).1 l2 b2 := by
        simp only [lstR]
        rw [if_neg (fun z => q (n1.symm.trans z)), ← el2, ← eb2]
      have eR := ord_g (F := V) (n := n) (wh := 0) (m := m + 1) (o := p) (l := fO l) (b := c) (by omega) q ev9 s2 ec2
      rw [eC, eR]
      exact ih f (by omega) (hs2 q) n2 s1 s3
/-- behind an order that never stops nothing counts -/
theorem far_e {n : Nat} {V : Row → Int32} (hn : 1 ≤ n) (hn6 : n ≤ 6) (hV : ∀ p, oB n p → V p = (-1) ∨ (0 ≤ V p ∧ V p ≤ 16200000)) : ∀ (m : Nat) {p c : Row}, stO n m p → (ordG V n 1 m p FARC c).1 = FARC ∧ (ordG V n 1 m p FARC c).2.1 = c := by
  intro m
  induction m with
  | zero => intro p c h; have := stO_1 h; omega
  | succ m ih =>
    intro p c hs
    have hv := hV p (stO_b hn6 hs)
    obtain ⟨v9, ev9⟩ : ∃ v9, v9 = (if V p = (-1) then FARC else V p) := ⟨_, rfl⟩
    have nt : ¬ (if (1 : Int32) = 0 then v9 < FARC else FARC < v9) := by
      rw [if_neg (show ¬ (1 : Int32) = 0 by decide), ev9]
      by_cases q : V p = (-1)
      · rw [if_pos q]; exact Int32.not_lt.mpr (Int32.le_refl _)
      · rw [if_neg q]
        have := hv.resolve_left q
        intro y
        have : (1000000000 : Int32) < V p := y
        grind
    by_cases q : (nxt p n).2 = 0
    · rw [ord_e (by omega) q ev9 (if_neg nt).symm (if_neg nt).symm]
      exact ⟨rfl, rfl⟩
    · rw [ord_g (by omega) q ev9 (if_neg nt).symm (if_neg nt).symm]
      exact ih (stO_n hn hs q).2
theorem grt_e {n : Nat} {F : Row → Int32 → Int32} {V : Row → Int32} (hn : 1 ≤ n) (hn6 : n ≤ 6) (hF : vF n F V) : ∀ (m f : Nat) {o p : Row} {l : Int32} {b c : Row}, m ≤ f → stO n m p → oR n o p → (l = (-1) ∨ (0 ≤ l ∧ l ≤ 16200000 ∧ oR n b c)) →
    (grtR F n f o l b).1 = (if (ordG V n 1 m p l c).1 = FARC then (-1) else (ordG V n 1 m p l c).1) ∧ oR n (grtR F n f o l b).2 (ordG V n 1 m p l c).2.1 := by
  intro m
  induction m with
  | zero => intro f o p l b c _ h; have := stO_1 h; omega
  | succ m ih =>
    intro f o p l b c hf hs h hl
    obtain ⟨f, rfl⟩ : ∃ k, f = k + 1 := ⟨f - 1, by omega⟩
    have hB := stO_b hn6 hs
    obtain ⟨hc, hV⟩ := hF o p h hB
    obtain ⟨n1, n2⟩ := nx_sh hn (by omega) h hB
    have hs2 : ¬ (nxt p n).2 = 0 → stO n m (nxt p n).1 := fun q => (stO_n hn hs q).2
    have hVa : ∀ r, oB n r → V r = (-1) ∨ (0 ≤ V r ∧ V r ≤ 16200000) := fun r hr => (hF (fun k => r k + 1) r (fun k _ => rfl) hr).2
    have ef : F o NOL = V p := by rw [hc, cap_NOL]
    have hlb : l < (16200001 : Int32) := by
      rcases hl with q | q
      · rw [q]; decide
      · have := q.2.1; grind
    obtain ⟨v9, ev9⟩ : ∃ v9, v9 = (if V p = (-1) then FARC else V p) := ⟨_, rfl⟩
    by_cases qv : V p = (-1)
    · -- it never stops
      have e9 : v9 = FARC := by rw [ev9, if_pos qv]
      have tk : (if (1 : Int32) = 0 then v9 < l else l < v9) := by
        rw [if_neg (show ¬ (1 : Int32) = 0 by decide), e9]
        show l < (1000000000 : Int32)
        grind
      have eC : grtR F n (f + 1) o l b = ((-1), va_cpy o b 0 0 6) := by
        simp only [grtR]; rw [if_pos (ef.trans qv)]
      rw [eC]
      by_cases q : (nxt p n).2 = 0
      · rw [ord_e (by omega) q ev9 (if_pos tk).symm (if_pos tk).symm, e9]
        exact ⟨(if_pos rfl).symm, cp_o hn6 h⟩
      · rw [ord_g (by omega) q ev9 (if_pos tk).symm (if_pos tk).symm, e9]
        have fe := far_e (c := hoR c p n) hn hn6 hVa m (hs2 q)
        rw [show m + 1 - 1 = m by omega, fe.1, fe.2]
        exact ⟨(if_pos rfl).symm, cp_o hn6 h⟩
    · have hv := hV.resolve_left qv
      have e9 : v9 = V p := by rw [ev9, if_neg qv]
      obtain ⟨l2, el2⟩ : ∃ l2, l2 = (if l < V p then V p else l) := ⟨_, rfl⟩
      obtain ⟨b2, eb2⟩ : ∃ b2, b2 = (if l < V p then va_cpy o b 0 0 6 else b) := ⟨_, rfl⟩
      obtain ⟨c2, ec2⟩ : ∃ c2, c2 = (if l < V p then hoR c p n else c) := ⟨_, rfl⟩
      have el3 : l2 = (if (if (1 : Int32) = 0 then v9 < l else l < v9) then v9 else l) := by
        rw [el2, e9]
        have tq : (if (1 : Int32) = 0 then V p < l else l < V p) ↔ l < V p := by rw [if_neg (show ¬ (1 : Int32) = 0 by decide)]
        by_cases q : l < V p
        · rw [if_pos q, if_pos (tq.mpr q)]
        · rw [if_neg q, if_neg (fun z => q (tq.mp z))]
      have ec3 : c2 = (if (if (1 : Int32) = 0 then v9 < l else l < v9) then hoR c p n else c) := by
        rw [ec2, e9]
        have tq : (if (1 : Int32) = 0 then V p < l else l < V p) ↔ l < V p := by rw [if_neg (show ¬ (1 : Int32) = 0 by decide)]
        by_cases q : l < V p
        · rw [if_pos q, if_pos (tq.mpr q)]
        · rw [if_neg q, if_neg (fun z => q (tq.mp z))]
      have st : 0 ≤ l2 ∧ l2 ≤ 16200000 ∧ oR n b2 c2 := by
        rw [el2, eb2, ec2]
        by_cases q : l < V p
        · rw [if_pos q, if_pos q, if_pos q]
          exact ⟨hv.1, hv.2, cp_o hn6 h⟩
        · rw [if_neg q, if_neg q, if_neg q]
          rcases hl with z | z
          · rw [z] at q; exact absurd (show (-1 : Int32) < V p by grind) q
          · exact z
      have hne : ¬ l2 = FARC := by
        intro z
        have : l2 ≤ 16200000 := st.2.1
        rw [z] at this
        exact absurd this (by decide)
      by_cases q : (nxt p n).2 = 0
      · have eC : grtR F n (f + 1) o l b = (l2, b2) := by
          simp only [grtR]
          rw [if_neg (fun z => qv (ef.symm.trans z)), if_pos (n1.trans q), ef, el2, eb2]
          by_cases z : l < V p
          · rw [if_pos z, if_pos z, if_pos z]
          · rw [if_neg z, if_neg z, if_neg z]
        rw [eC, ord_e (by omega) q ev9 el3 ec3]
        exact ⟨(if_neg hne).symm, st.2.2⟩
      · have eC : grtR F n (f + 1) o l b = grtR F n f (nxt o n).1 l2 b2 := by
          simp only [grtR]
          rw [if_neg (fun z => qv (ef.symm.trans z)), if_neg (fun z => q (n1.symm.trans z)), ef, ← el2, ← eb2]
        rw [eC, ord_g (by omega) q ev9 el3 ec3]
        exact ih f (by omega) (hs2 q) n2 (Or.inr st)
