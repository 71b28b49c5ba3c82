abbrev SC6 : List (Nat × Nat) := [(13, 1), (14, 1), (15, 1), (16, 1), (30, 2), (31, 2), (32, 2), (33, 2), (34, 2), (35, 2), (36, 2), (40, 0), (104, 1), (105, 1), (106, 1), (107, 1), (108, 1), (109, 1), (500, 2), (501, 2), (502, 2), (580, 1), (581, 1), (582, 1), (583, 1), (584, 1), (585, 1), (586, 1)]
/-! cars cut out: how many -/
theorem bkR_b {out b0 : Row} : ∀ k : Nat, ∃ m : Nat, (bkR out b0 k).2 = nI m ∧ (m < k ∨ m = 0) ∧ ∀ i, i < m → ∃ j, 1 ≤ j ∧ j < k ∧ k < 2 ^ 31 ∧ (bkR out b0 k).1 i = nI j ∨ 2 ^ 31 ≤ k := by
  intro k
  induction k with
  | zero => exact ⟨0, rfl, Or.inr rfl, fun i h => absurd h (Nat.not_lt_zero _)⟩
  | succ k ih =>
    by_cases q : 1 ≤ k
    · obtain ⟨m, e1, e2, e3⟩ := ih
      rw [bkR_s _ _ q]
      by_cases hk : 2 ^ 31 ≤ k + 1
      · by_cases ho : out k = 0
        · rw [if_pos ho]
          exact ⟨m + 1, by show (bkR out b0 k).2 + 1 = _; rw [e1, nI_1], Or.inl (by omega), fun i h => ⟨1, Or.inr hk⟩⟩
        · rw [if_neg ho]
          exact ⟨m, e1, Or.inl (by omega), fun i h => ⟨1, Or.inr hk⟩⟩
      · by_cases ho : out k = 0
        · rw [if_pos ho]
          refine ⟨m + 1, by show (bkR out b0 k).2 + 1 = _; rw [e1, nI_1], Or.inl (by omega), fun i h => ?_⟩
          show ∃ j, 1 ≤ j ∧ j < k + 1 ∧ k + 1 < 2 ^ 31 ∧ upd (bkR out b0 k).1 (bkR out b0 k).2.toNatClampNeg (nI k) i = nI j ∨ 2 ^ 31 ≤ k + 1
          rw [e1, nI_clamp (by omega)]
          by_cases hi : i = m
          · subst hi; exact ⟨k, Or.inl ⟨q, by omega, by omega, upd_s _ _ _⟩⟩
          · rw [upd_n _ _ hi]
            obtain ⟨j, hj⟩ := e3 i (by omega)
            rcases hj with ⟨a, b, c, d⟩ | hj
            · exact ⟨j, Or.inl ⟨a, by omega, by omega, d⟩⟩
            · omega
        · rw [if_neg ho]
          refine ⟨m, e1, Or.inl (by omega), fun i h => ?_⟩
          obtain ⟨j, hj⟩ := e3 i (by omega)
          rcases hj with ⟨a, b, c, d⟩ | hj
          · exact ⟨j, Or.inl ⟨a, by omega, by omega, d⟩⟩
          · omega
    · have : k = 0 := by omega
      subst this
      exact ⟨0, rfl, Or.inr rfl, fun i h => absurd h (Nat.not_lt_zero _)⟩
theorem bkR_q {out b0 B : Row} {n sz : Int32} (h1 : 0 ≤ sz) (h2 : sz ≤ 10) (e : bkR out b0 (sz + 1).toNatClampNeg = (B, n)) : 0 ≤ n ∧ n ≤ sz ∧ ∀ i, i < n.toNatClampNeg → 1 ≤ B i ∧ B i ≤ sz := by
  obtain ⟨m, e1, e2, e3⟩ := bkR_b (out := out) (b0 := b0) (sz + 1).toNatClampNeg
  rw [e] at e1 e3
  have hs := cl_succ h1 (show sz < 2147483647 by grind)
  have hz : sz.toNatClampNeg ≤ 10 := (cl_le h1 (show (0 : Int32) ≤ 10 by decide)).mpr h2
  dsimp only at e1 e3
  have e4 := nI_cl h1
  subst e1
  have hm : m ≤ sz.toNatClampNeg := by omega
  refine ⟨nI_le (a := 0) (Nat.zero_le _) (by omega), ?_, fun i hi => ?_⟩
  · rw [← e4]; exact nI_le hm (by omega)
  · rw [nI_clamp (by omega)] at hi
    obtain ⟨j, hj⟩ := e3 i hi
    rcases hj with ⟨a, b, c, d⟩ | hj
    · rw [d]
      refine ⟨nI_le (a := 1) a (by omega), ?_⟩
      rw [← e4]; exact nI_le (by omega) (by omega)
    · omega
theorem setOut_p {o o2 br : Row} {s : Int32} {j : Nat} : ∀ n : Nat, ((∀ i, i < n → (br i).toNatClampNeg ≠ j) → o2 j = o j) → setOut o2 br s n j = setOut o br s n j := by
  intro n
  induction n with
  | zero => intro h; exact h (fun i hi => absurd hi (Nat.not_lt_zero _))
  | succ n ih =>
    intro h
    simp only [setOut]
    by_cases q : j = (br n).toNatClampNeg
    · subst q; rw [upd_s, upd_s]
    · rw [upd_n _ _ q, upd_n _ _ q]
      refine ih (fun k => h (fun i hi => ?_))
      by_cases e : i = n
      · subst e; exact fun z => q z.symm
      · exact k i (by omega)
/-- the span with some cars out -/
def cutG (lim : Int32) (R : RK) (wt : Row) (L : LV) (g sp sn : Int32) (B : Row) (n : Int32) (s : Int32) : Int32 := runV lim (R.1, R.2.1, R.2.2.1, R.2.2.2.1, setOut R.2.2.2.2.1 B s n.toNatClampNeg, R.2.2.2.2.2.1, R.2.2.2.2.2.2.1, R.2.2.2.2.2.2.2.1, R.2.2.2.2.2.2.2.2) wt L g sp sn
def cutE (G : Int32 → Int32) (n : Int32) : Nat → Int32 := fun j => swR G (nI j) ((1 : Int32) <<< (n &&& 31)).toNatClampNeg 0
def cutF (lim : Int32) (R : RK) (wt : Row) (L : LV) (g sp sn : Int32) (bk : Row × Int32) : Int32 := lsR (cutE (cutG lim R wt L g sp sn bk.1 bk.2) bk.2) (bk.2 + 1).toNatClampNeg
theorem swR_c {G H : Int32 → Int32} (h : ∀ s, G s = H s) (k : Int32) (m : Nat) (s : Int32) : swR G k m s = swR H k m s := by rw [funext h]
theorem swR_01 (G : Int32 → Int32) (k : Int32) (m : Nat) : ∀ s, swR G k m s = 0 ∨ swR G k m s = 1 := by
  induction m with
  | zero => intro s; exact Or.inr rfl
  | succ m ih =>
    intro s; simp only [swR]; split
    · exact Or.inl rfl
    · exact ih _
def CK (sz n : Int32) (B o o2 : Row) : Prop := ∀ j, 1 ≤ j → j < (sz + 1).toNatClampNeg → (∀ i, i < n.toNatClampNeg → (B i).toNatClampNeg ≠ j) → o2 j = o j
theorem cut_e {lim sz full feed : Int32} {ki wt ou ke le ho sk ki2 wt2 ou2 ke2 le2 ho2 sk2 B : Row} {L : LV} {g sp sn n : Int32} (hk : re sz ki2 ki) (hw : re sz wt2 wt) (hke : re sz ke2 ke) (hl : re sz le2 le) (hh : re sz ho2 ho) (hs : re sz sk2 sk) (hc : CK sz n B ou ou2) (s : Int32) :
    runV lim (sz, full, feed, ki2, setOut ou2 B s n.toNatClampNeg, ke2, le2, ho2, sk2) wt2 L g sp sn = cutG lim (sz, full, feed, ki, ou, ke, le, ho, sk) wt L g sp sn B n s := by
  have e : RE (sz, full, feed, ki2, setOut ou2 B s n.toNatClampNeg, ke2, le2, ho2, sk2) (sz, full, feed, ki, setOut ou B s n.toNatClampNeg, ke, le, ho, sk) := by
    simp only [RE]
    exact ⟨trivial, trivial, trivial, hk, fun j h1 h2 => setOut_p _ (hc j h1 h2), hke, hl, hh, hs⟩
  exact runV_re e hw L g sp sn
theorem cpR_re1 (f g : Row) (n : Int32) : re n (cpR f g (n + 1).toNatClampNeg) g := by
  intro k h1 h2
  simp only [cpR]; rw [if_pos ⟨h1, h2⟩]
/-! the last tick at which a dump helps -/
def dmp (s : AS) : AS := (s.1, s.2.1, s.2.2.1, s.2.2.2.1, s.2.2.2.2.1, s.2.2.2.2.2.1, 1, s.2.2.2.2.2.2.2.1, s.2.2.2.2.2.2.2.2.1, 0)
def dmpV (lim : Int32) (R : RK) (wt : Row) (L : LV) (x : AS × RS) : Int32 := spanV lim (spanX lim R wt L 600 (dmp x.1, x.2))
def helpR (lim : Int32) (R : RK) (wt : Row) (L : LV) : Nat → Int32 → Int32 → AS × RS → Int32
  | 0, _, la, _ => la
  | n + 1, t, la, x => if ¬ x.2.2.2.2.1 ≤ lim then la else if x.2.2.2.2.2.1 = 0 then 400 else helpR lim R wt L n (t + 1) (if dmpV lim R wt L x ≠ (-1) then t else la) (stepX R wt L x)
theorem ag_cpy {p q b : Row} (h : ag p q) : ag (va_cpy p b 0 0 17) q := by
  intro k hk
  simp only [va_cpy]
  rw [if_pos ⟨Nat.zero_le _, by omega⟩]
  simp only [Nat.sub_zero, Nat.zero_add]
  exact h k hk
theorem dmp_ae {p b t c b3 p3 t3 c3 : Row} {k s d e f g : Int32} {S : AS} (h : AE (p, b, t, c, k, s, d, e, f, g) S) : AE (va_cpy p p3 0 0 17, b3, va_cpy t t3 0 0 17, va_cpy c c3 0 0 17, k, s, 1, e, f, 0) (dmp S) := by
  obtain ⟨h1, h2, h3, h4⟩ := h
  refine ⟨ag_cpy h1, ag_cpy h2, ag_cpy h3, ?_⟩
  show (k, s, (1 : Int32), e, f, (0 : Int32)) = (S.2.2.2.2.1, S.2.2.2.2.2.1, 1, S.2.2.2.2.2.2.2.1, S.2.2.2.2.2.2.2.2.1, 0)
  rw [← h4]
theorem dmpV_ae {lim : Int32} {R : RK} (h1 : 0 ≤ R.1) (h2 : R.1 ≤ 16) {wt : Row} {L : LV} {s S : AS} {d : RS} (h : AE s (dmp S)) : spanV lim (spanX lim R wt L 600 (s, d)) = dmpV lim R wt L (S, d) := spanV_ae h1 h2 wt L 600 d h
theorem step_ae {R : RK} (h1 : 0 ≤ R.1) (h2 : R.1 ≤ 16) {wt : Row} {L : LV} {s S : AS} (h : AE s S) (d : RS) : ∃ S2, AE ((advF R L s).1, (advF R L s).2.1, (advF R L s).2.2.1, (advF R L s).2.2.2.1, (advF R L s).2.2.2.2.1, (advF R L s).2.2.2.2.2.1, s.2.2.2.2.2.2.1, s.2.2.2.2.2.2.2.1, s.2.2.2.2.2.2.2.2.1, (advF R L s).2.2.2.2.2.2.2.2.2) S2 ∧ (S2, (d.1, d.2.1, (rollF R wt (advF R L s).2.2.2.1 (advF R L s).2.2.2.2.2.2.2.2.2 d).2.2)) = stepX R wt L (S, d) := by
  obtain ⟨a, b⟩ := stepX_ae h1 h2 wt L h d
  rw [stepX_eta R wt L s d] at a b
  exact ⟨_, a, Prod.ext rfl b⟩
theorem ite_01 {Q : Prop} [Decidable Q] : (if Q then (1 : Int32) else 0) = 0 ∨ (if Q then (1 : Int32) else 0) = 1 := by
  by_cases h : Q
  · exact Or.inr (if_pos h)
  · exact Or.inl (if_neg h)
theorem tail_01 (R : RK) (both act amt br : Int32) (p b t c : Row) : (tailF R both act amt br p b t c).2.2.2.2 = 0 ∨ (tailF R both act amt br p b t c).2.2.2.2 = 1 := by
  exact ite_01
theorem advF_01 (R : RK) (L : LV) (s : AS) (h : s.2.2.2.2.2.2.2.2.2 = 0 ∨ s.2.2.2.2.2.2.2.2.2 = 1) : (advF R L s).2.2.2.2.2.2.2.2.2 = 0 ∨ (advF R L s).2.2.2.2.2.2.2.2.2 = 1 := by
  by_cases q : (if s.2.2.2.2.1 + 1 = s.2.2.2.2.2.2.2.2.1 then (0 : Int32) else if overF L.1 L.2.2.2.2 s.2.2.2.2.2.1 (s.2.2.2.2.1 + 1) ≠ 0 then 0 else s.2.2.2.2.2.2.2.2.2) ≠ 0
  · simp only [advF, if_pos q]
    split
    · exact Or.inl rfl
    · split
      · exact Or.inl rfl
      · exact h
  · simp only [advF, if_neg q]; exact tail_01 _ _ _ _ _ _ _ _ _
