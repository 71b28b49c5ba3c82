/-! tokens -/
/-- start, stop, form, value, fault, its place -/
abbrev TS : Type := Int32 × Int32 × Int32 × Int32 × Int32 × Int32
/-- the bytes, how many, the limit -/
abbrev TP : Type := Row × Int32 × Int32
def skR (f : Row) : Nat → Nat → Nat
  | 0, p => p
  | n + 1, p => if f p = 32 ∨ f p = 10 then skR f n (p + 1) else p
def sgR (f : Row) : Nat → Nat → Int32 → Int32 → Int32 → Nat × Int32 × Int32 × Int32
  | 0, p, l, d, v => (p, l, d, v)
  | n + 1, p, l, d, v => if 97 ≤ f p ∧ f p ≤ 122 then sgR f n (p + 1) (l + 1) d v else if 48 ≤ f p ∧ f p ≤ 57 then sgR f n (p + 1) l (d + 1) (v * 10 + f p - 48) else (p, l, d, v)
def fmF (l d : Int32) : Int32 := if d = 0 ∧ 1 ≤ l ∧ l ≤ 5 then 1 else if l = 0 ∧ 1 ≤ d ∧ d ≤ 3 then 2 else 4
theorem skR_le (f : Row) (n : Nat) : ∀ p, p ≤ skR f n p ∧ skR f n p ≤ p + n := by
  induction n with
  | zero => intro p; exact ⟨Nat.le_refl _, Nat.le_refl _⟩
  | succ n ih =>
    intro p; simp only [skR]; split
    · have := ih (p + 1); omega
    · omega
theorem sgR_le (f : Row) (n : Nat) : ∀ p l d v, p ≤ (sgR f n p l d v).1 ∧ (sgR f n p l d v).1 ≤ p + n := by
  induction n with
  | zero => intro p l d v; exact ⟨Nat.le_refl _, Nat.le_refl _⟩
  | succ n ih =>
    intro p l d v; simp only [sgR]; split
    · have := ih (p + 1) (l + 1) d v; omega
    · split
      · have := ih (p + 1) l (d + 1) (v * 10 + f p - 48); omega
      · exact ⟨Nat.le_refl _, Nat.le_add_right _ _⟩
def rdT (P : TP) (s : TS) : TS :=
  let p := skR P.1 (P.2.2.toNatClampNeg - s.2.1.toNatClampNeg) s.2.1.toNatClampNeg
  if P.2.2.toNatClampNeg ≤ p then (P.2.2, s.2.1, 0, s.2.2.2.1, s.2.2.2.2.1, s.2.2.2.2.2)
  else if P.1 p = 59 then (nI p, nI (p + 1), 3, s.2.2.2.1, s.2.2.2.2.1, s.2.2.2.2.2)
  else
    let q := sgR P.1 (P.2.1.toNatClampNeg - p) p 0 0 0
    (nI p, nI q.1, fmF q.2.1 q.2.2.1, q.2.2.2, s.2.2.2.2.1, s.2.2.2.2.2)
theorem rdT_fp (P : TP) (s : TS) : (rdT P s).2.2.2.2 = s.2.2.2.2 := by
  simp only [rdT]; split
  · rfl
  · split <;> rfl
def rfT (why : Int32) (s : TS) : TS := (s.1, s.2.1, s.2.2.1, s.2.2.2.1, why, s.1)
def tnT (P : TP) (a b : Int32) (s : TS) : Int32 × TS := if ¬ s.2.2.1 = 2 then ((-1), rfT 1 s) else if s.2.2.2.1 < a ∨ b < s.2.2.2.1 then ((-1), rfT 2 s) else (s.2.2.2.1, rdT P s)
def tmT (P : TP) (s : TS) : Int32 × TS := if ¬ s.2.2.1 = 3 then (0, rfT 1 s) else (1, rdT P s)
def byF (P : TP) (x : Int32) : Int32 := if 0 ≤ x ∧ x < P.2.1 then P.1 x.toNatClampNeg else (-1)
def wdT (P : TP) (s : TS) (l : List Int32) : Int32 := if s.2.2.1 = 1 ∧ s.2.1 - s.1 = nI l.length ∧ ∀ k, k < l.length → byF P (s.1 + nI k) = l.getD k 0 then 1 else 0
def okT (P : TP) (s : TS) : Prop := 0 ≤ s.2.1 ∧ s.2.1 ≤ P.2.1 ∧ P.2.1 ≤ 740 ∧ 0 ≤ P.2.2 ∧ P.2.2 ≤ P.2.1
theorem okT_rd {P : TP} {s : TS} (h : okT P s) : okT P (rdT P s) := by
  obtain ⟨h1, h2, h3, h4, h5⟩ := h
  have h0 : 0 ≤ P.2.1 := by grind
  have e : P.2.1.toNatClampNeg ≤ 740 := (cl_le h0 (show (0 : Int32) ≤ 740 by decide)).mpr h3
  have e5 := (cl_le h4 h0).mpr h5
  have e1 := skR_le P.1 (P.2.2.toNatClampNeg - s.2.1.toNatClampNeg) s.2.1.toNatClampNeg
  have e2 : ∀ n, n ≤ P.2.1.toNatClampNeg → 0 ≤ nI n ∧ nI n ≤ P.2.1 := fun n hn => ⟨nI_le (a := 0) (Nat.zero_le _) (by omega), by
    rw [← nI_cl h0]; exact nI_le hn (by omega)⟩
  simp only [rdT, okT]
  split
  · exact ⟨h1, h2, h3, h4, h5⟩
  · split
    · have := e2 (skR P.1 (P.2.2.toNatClampNeg - s.2.1.toNatClampNeg) s.2.1.toNatClampNeg + 1) (by omega)
      exact ⟨this.1, this.2, h3, h4, h5⟩
    · have e6 := sgR_le P.1 (P.2.1.toNatClampNeg - skR P.1 (P.2.2.toNatClampNeg - s.2.1.toNatClampNeg) s.2.1.toNatClampNeg) (skR P.1 (P.2.2.toNatClampNeg - s.2.1.toNatClampNeg) s.2.1.toNatClampNeg) 0 0 0
      have := e2 _ (show (sgR P.1 (P.2.1.toNatClampNeg - skR P.1 (P.2.2.toNatClampNeg - s.2.1.toNatClampNeg) s.2.1.toNatClampNeg) (skR P.1 (P.2.2.toNatClampNeg - s.2.1.toNatClampNeg) s.2.1.toNatClampNeg) 0 0 0).1 ≤ P.2.1.toNatClampNeg by omega)
      exact ⟨this.1, this.2, h3, h4, h5⟩
theorem okT_rf {P : TP} {s : TS} {y : Int32} (h : okT P s) : okT P (rfT y s) := h
theorem okT_tn {P : TP} {s : TS} {a b : Int32} (h : okT P s) : okT P (tnT P a b s).2 := by
  simp only [tnT]; split
  · exact h
  · split
    · exact h
    · exact okT_rd h
theorem okT_tm {P : TP} {s : TS} (h : okT P s) : okT P (tmT P s).2 := by
  simp only [tmT]; split
  · exact h
  · exact okT_rd h
theorem lit_len : ∀ i, i < 20 → (litS.getD i []).length = lenS.getD i 0 ∧ lenS.getD i 0 < 1000 := by decide +kernel
theorem wdT_01 (P : TP) (s : TS) (l : List Int32) : wdT P s l = 0 ∨ wdT P s l = 1 := ite_01
