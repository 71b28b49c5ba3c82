/-! both sides together: the relation of their cells -/
def JT (n n2 : Int32) (f g : Row) : Prop := n = n2 ∧ f = g ∧ (0 ≤ n2 ∧ n2 ≤ 740) ∧ ∀ k, 0 ≤ g k ∧ g k ≤ 255
def JK (R : RK) (wt : Row) (n fu fe i : Int32) (q a : Row) : Prop := (R.1 = n ∧ R.2.1 = fu ∧ R.2.2.1 = fe) ∧ (1 ≤ n ∧ n ≤ 16) ∧ (0 ≤ fu ∧ fu ≤ 900) ∧ (0 ≤ fe ∧ fe ≤ 99) ∧ (i = 0 ∨ i = 1) ∧ TJ n R.2.2.2.1 wt R.2.2.2.2.1 R.2.2.2.2.2.1 R.2.2.2.2.2.2.1 R.2.2.2.2.2.2.2.1 R.2.2.2.2.2.2.2.2 (L7 q i) ∧ TB n (L7 q i) ∧ asT a
def JR (b b2 t t2 m m2 v v2 : Int32) : Prop := b = b2 ∧ (¬ b2 = 0 → t = t2 ∧ m = m2 ∧ v = v2)
def JO (n n2 : Int32) (o b : Row) : Prop := n = n2 ∧ (0 ≤ n2 ∧ n2 ≤ 6) ∧ ∀ k, k < n2.toNatClampNeg → o k = b k + 1
def JG (n n2 c i c2 : Int32) (f g : Row) : Prop := n = n2 ∧ (0 ≤ n2 ∧ n2 ≤ 113) ∧ (∀ k, k < n2.toNatClampNeg → f k = g k) ∧ ((i = 0 ∧ c = 0 ∧ n2 = 0) ∨ (¬ i = 0 ∧ c = c2 ∧ 1 ≤ c2 ∧ ∀ k, k < n2.toNatClampNeg → gOK c2 (g k)))
def JW (b b2 s s2 p p2 : Int32) : Prop := b = b2 ∧ s = s2 ∧ p = p2
def JB (n n2 : Int32) (r r2 m m2 : Nat → Int64) (h h2 : Row) : Prop := n = n2 ∧ (0 ≤ n2 ∧ n2 ≤ 40) ∧ r = r2 ∧ m = m2 ∧ h = h2 ∧ ∀ k, h2 k = 0 ∨ h2 k = 1
def JS (n n2 : Int32) (f g : Row) : Prop := n = n2 ∧ (0 ≤ n2 ∧ n2 ≤ 40) ∧ f = g
abbrev MW (w : Wi) : LV := ((w 1084 0 0), (w 1086 0 0), (w 43 0), (w 44 0), (w 45 0))
def J (w : Wi) (z : Wj) : Prop := JT (w 661 0 0) (w 1062 0 0) (w 37 0) (w 41 0) ∧ JK (RW w) (w 31 0) (w 1074 0 0) (w 1075 0 0) (w 1076 0 0) (w 1080 0 0) (w 42 0) (w 56 0) ∧ LJ (LW w) (MW w) ∧ w 991 0 0 = w 1069 0 0 ∧
  JR (w 992 0 0) (w 1109 0 0) (w 585 0 0) (w 1106 0 0) (w 586 0 0) (w 1107 0 0) (w 584 0 0) (w 1108 0 0) ∧ JO (w 909 0 0) (w 1112 0 0) (w 39 0) (w 58 0) ∧ JG (w 270 0 0) (w 1120 0 0) (w 271 0 0) (w 1122 0 0) (w 1121 0 0) (w 24 0) (w 63 0) ∧
  JW (w 275 0 0) (w 1125 0 0) (w 276 0 0) (w 1123 0 0) (w 277 0 0) (w 1124 0 0) ∧ JB (w 180 0 0) (w 1129 0 0) (z 17 0) (z 65 0) (z 18 0) (z 66 0) (w 19 0) (w 67 0) ∧ JS (w 185 0 0) (w 1131 0 0) (w 20 0) (w 68 0)
theorem J_mk {w : Wi} {z : Wj} (h1 : JT (w 661 0 0) (w 1062 0 0) (w 37 0) (w 41 0)) (h2 : JK (RW w) (w 31 0) (w 1074 0 0) (w 1075 0 0) (w 1076 0 0) (w 1080 0 0) (w 42 0) (w 56 0)) (h3 : LJ (LW w) (MW w)) (h4 : w 991 0 0 = w 1069 0 0)
  (h5 : JR (w 992 0 0) (w 1109 0 0) (w 585 0 0) (w 1106 0 0) (w 586 0 0) (w 1107 0 0) (w 584 0 0) (w 1108 0 0)) (h6 : JO (w 909 0 0) (w 1112 0 0) (w 39 0) (w 58 0)) (h7 : JG (w 270 0 0) (w 1120 0 0) (w 271 0 0) (w 1122 0 0) (w 1121 0 0) (w 24 0) (w 63 0))
  (h8 : JW (w 275 0 0) (w 1125 0 0) (w 276 0 0) (w 1123 0 0) (w 277 0 0) (w 1124 0 0)) (h9 : JB (w 180 0 0) (w 1129 0 0) (z 17 0) (z 65 0) (z 18 0) (z 66 0) (w 19 0) (w 67 0)) (h10 : JS (w 185 0 0) (w 1131 0 0) (w 20 0) (w 68 0)) : J w z := ⟨h1, h2, h3, h4, h5, h6, h7, h8, h9, h10⟩
/-- the same call on both sides: the same answer, and the relation behind it -/
def Pr (M1 M2 : Md) (E : En) (As : List Value) (w : Wi) (z : Wj) : Prop := ∃ P1, CtI M1 E (.ref (E.ad 11 0) :: As) w z P1 ∧ ∀ r W Z, P1 r (W, Z) → ∃ P2, CtI M2 E (.ref (E.ad 12 0) :: As) W Z P2 ∧ ∀ r2 U Y, P2 r2 (U, Y) → r2 = r ∧ J U Y
def PrS (M1 M2 : Md) (E : En) (As : List Value) (w : Wi) (z : Wj) : Prop := ∃ P1, CsI M1 E (.ref (E.ad 11 0) :: As) w z P1 ∧ ∀ r W Z, P1 r (W, Z) → ∃ P2, CtI M2 E (.ref (E.ad 12 0) :: As) W Z P2 ∧ ∀ r2 U Y, P2 r2 (U, Y) → r2 = r ∧ J U Y
theorem L7_L (q : Row) (i : Int32) : L7 (L7 q i) 1 = L7 q i := L7_1 _
theorem jk_lay {R : RK} {wt : Row} {n fu fe i : Int32} {q a : Row} (h : JK R wt n fu fe i q a) : JK R wt n fu fe 1 (L7 q i) a := by
  obtain ⟨h1, h2, h3, h4, h5, h6, h7, h8⟩ := h
  exact ⟨h1, h2, h3, h4, Or.inr rfl, by rw [L7_L]; exact h6, by rw [L7_L]; exact h7, h8⟩
theorem jk_if {R : RK} {wt : Row} {n fu fe i : Int32} {q a : Row} {p : Prop} [Decidable p] (h : JK R wt n fu fe i q a) : JK R wt n fu fe (if p then i else 1) (if p then q else L7 q i) a := by
  by_cases c : p
  · rw [if_pos c, if_pos c]; exact h
  · rw [if_neg c, if_neg c]; exact jk_lay h
theorem RB_re {R S : RK} (h : RE R S) (g : RB S) : RB R := by
  obtain ⟨e1, e2, e3, e4, e5, e6, e7, e8, e9⟩ := h
  obtain ⟨g1, g2, g3, g4⟩ := g
  refine ⟨by rw [e1]; exact g1, by rw [e2]; exact g2, by rw [e3]; exact g3, fun k h1 h2 => ?_⟩
  have g5 := g4 k h1 (by rw [← e1]; exact h2)
  rw [e4 k h1 h2, e6 k h1 h2, e7 k h1 h2, e8 k h1 h2]
  exact g5
theorem jk_all {R : RK} {wt : Row} {n fu fe i : Int32} {q a : Row} (h : JK R wt n fu fe i q a) : RE R (rkT n fu fe (L7 q i) a) ∧ RB R ∧ RB (rkT n fu fe (L7 q i) a) ∧ wsum wt (R.1 + 1).toNatClampNeg = wgR (L7 q i) a n.toNatClampNeg ∧ (0 < (wgR (L7 q i) a n.toNatClampNeg).toInt ∧ (wgR (L7 q i) a n.toNatClampNeg).toInt ≤ 2000) ∧ (∀ k, k < n.toNatClampNeg → 0 ≤ a k ∧ a k < 16) ∧ ¬ wgR (L7 q i) a n.toNatClampNeg = 0 := by
  obtain ⟨⟨h1, h1b, h1c⟩, h2, h3, h4, h5, h6, h7, h8⟩ := h
  have hR : RE R (rkT n fu fe (L7 q i) a) := by
    have := rk_RE (full := fu) (fed := fe) h2.1 h2.2 h6 h8
    have e : R = (n, fu, fe, R.2.2.2.1, R.2.2.2.2.1, R.2.2.2.2.2.1, R.2.2.2.2.2.2.1, R.2.2.2.2.2.2.2.1, R.2.2.2.2.2.2.2.2) := by rw [← h1, ← h1b, ← h1c]
    rw [e]; exact this
  have hB := as_B h2.1 h2.2 h8
  have hS := rk_B h2.1 h2.2 h3 h4 h7 hB
  have hW := wg_b h2.1 h2.2 h7 hB
  refine ⟨hR, RB_re hR hS, hS, by rw [h1]; exact rk_W h2.1 h2.2 h6 h8, hW, fun k hk => ?_, fun z => ?_⟩
  · have := hB k hk
    obtain ⟨b1, b2⟩ := this
    refine ⟨b1, Int32.lt_of_lt_of_le b2 ?_⟩
    have : nI n.toNatClampNeg = n := nI_cl (by grind)
    rw [this]; exact h2.2
  · rw [z] at hW; exact absurd hW.1 (by decide)
theorem b8_x (n : Int32) : (n >>> (24 &&& 31)) &&& 255 = b8 n 24 ∧ (n >>> (16 &&& 31)) &&& 255 = b8 n 16 ∧ (n >>> (8 &&& 31)) &&& 255 = b8 n 8 ∧ (n >>> (0 &&& 31)) &&& 255 = b8 n 0 := by
  have h255 : ∀ i, i < 32 → ¬ i < 8 → (255 : Int32).toBitVec.getLsbD i = false := by decide
  have key : ∀ (s : Nat) (x : BitVec 32), s ≤ 24 → x.sshiftRight s &&& (255 : Int32).toBitVec = x >>> s &&& (255 : Int32).toBitVec := by
    intro s x hs
    refine BitVec.eq_of_getLsbD_eq fun i hi => ?_
    rw [BitVec.getLsbD_and, BitVec.getLsbD_and]
    by_cases h8 : i < 8
    · rw [BitVec.getLsbD_sshiftRight, BitVec.getLsbD_ushiftRight]
      have : s + i < 32 := by omega
      rw [show decide (32 ≤ i) = false from decide_eq_false (by omega), if_pos this]; rfl
    · rw [h255 i hi h8, Bool.and_false, Bool.and_false]
  refine ⟨?_, ?_, ?_, ?_⟩
  · exact Int32.toBitVec_inj.mp (key 24 n.toBitVec (by omega))
  · exact Int32.toBitVec_inj.mp (key 16 n.toBitVec (by omega))
  · exact Int32.toBitVec_inj.mp (key 8 n.toBitVec (by omega))
  · exact Int32.toBitVec_inj.mp (key 0 n.toBitVec (by omega))
theorem put4_e (f : Row) (s n : Int32) : put4 f s n = put4G f s n := by
  obtain ⟨h1, h2, h3, h4⟩ := b8_x n
  simp only [put4, put4G]
  rw [h1, h2, h3, h4]
theorem and_255 (x : Int32) : 0 ≤ x &&& 255 ∧ x &&& 255 ≤ 255 := by
  have h1 : (x &&& 255).toBitVec.toNat ≤ 255 := by
    show (x.toBitVec &&& (255 : Int32).toBitVec).toNat ≤ 255
    rw [BitVec.toNat_and]
    exact Nat.le_trans Nat.and_le_right (by decide)
  have h2 : (x &&& 255).toInt = ((x &&& 255).toBitVec.toNat : Int) := BitVec.toInt_eq_toNat_of_lt (by omega)
  have k0 : (0 : Int32).toInt = 0 := rfl
  have k1 : (255 : Int32).toInt = 255 := rfl
  rw [le_toInt, le_toInt, h2, k0, k1]
  omega
theorem upd_b {P : Int32 → Prop} {f : Row} {i : Nat} {x : Int32} (h : ∀ k, P (f k)) (hx : P x) : ∀ k, P (upd f i x k) := by
  intro k
  by_cases e : k = i
  · rw [e, upd_s]; exact hx
  · rw [upd_n _ _ e]; exact h k
theorem b8_b (n k : Int32) : 0 ≤ b8 n k ∧ b8 n k ≤ 255 := and_255 _
theorem put4_b {f : Row} {s n : Int32} (h : ∀ k, 0 ≤ f k ∧ f k ≤ 255) : ∀ k, 0 ≤ put4G f s n k ∧ put4G f s n k ≤ 255 :=
  upd_b (P := fun x => 0 ≤ x ∧ x ≤ 255) (upd_b (P := fun x => 0 ≤ x ∧ x ≤ 255) (upd_b (P := fun x => 0 ≤ x ∧ x ≤ 255) (upd_b (P := fun x => 0 ≤ x ∧ x ≤ 255) h (b8_b _ _)) (b8_b _ _)) (b8_b _ _)) (b8_b _ _)
theorem lj_b {L M : LV} (h : LJ L M) : L.1 = M.1 ∧ 0 ≤ M.1 ∧ M.1 ≤ 20 := ⟨h.1, h.2.1.1, h.2.1.2⟩
