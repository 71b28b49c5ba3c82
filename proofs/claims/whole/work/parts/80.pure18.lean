abbrev SCT : List (Nat × Nat) := [(30, 1), (31, 1), (32, 1), (33, 1), (34, 1), (35, 1), (36, 1), (500, 1), (501, 1), (502, 1), (741, 0), (742, 0), (743, 0), (744, 0), (745, 0), (746, 0), (747, 0), (822, 0), (823, 0)]
abbrev SCL : List (Nat × Nat) := [(27, 1), (28, 1), (29, 1), (420, 1), (421, 1), (741, 0), (742, 0), (743, 0), (744, 0), (745, 0), (746, 0), (747, 0)]
abbrev SCW : List (Nat × Nat) := [(13, 3), (14, 3), (15, 3), (16, 3), (25, 0), (26, 0), (30, 3), (31, 3), (32, 3), (33, 3), (34, 3), (35, 3), (36, 3), (104, 3), (105, 3), (106, 3), (107, 3), (108, 3), (109, 3), (274, 0), (500, 3), (501, 3), (502, 3)]
section LK
variable {K : Pk} {E : En} {A : Nat → Prop} {cc : ByteArray} {nL : Nat} {own : String} {ret : Option FieldType} {rm : Room} {Q : State → Prop} {pc : Nat} {lv : List (Nat × Value)} {st : List Value} {w : Wi} {z : Wj}
theorem v_look (C : Cx K E A cc nL own ret rm) {dflt off : Int} {ps : Array (Int × Int)} {len : Nat} {x : Int32} (tgt : Nat) (d : decode cc pc = .ok (.lookupswitch dflt ps, len)) (hp : (ps.toList.zip (ps.toList.drop 1)).all (fun (a, next) => a.1 < next.1) = true) (ho : Op.lookupswitch.offset ps.toList dflt x.toInt = off) (ht : (pc : Int) + off = (tgt : Int)) (k : V K E A nL Q tgt lv st w z) : V K E A nL Q pc lv (.int x :: st) w z := fun H locs ls hl hP hD hS => lv_lookup C.1 C.2.1 d hp ho ht (k H locs ls hl hP hD hS)
end LK
theorem ltR_ok {P : TP} : ∀ (m : Nat) (n : Int32) (x : LTS), okT P x.1 → 0 ≤ x.2.2.2.1 → x.2.2.2.1 ≤ 16 → 0 ≤ (ltR P m n x).2.2.2.2.1 ∧ (ltR P m n x).2.2.2.2.1 ≤ 16 := by
  intro m
  induction m with
  | zero => intro n x _ h1 h2; exact ⟨h1, h2⟩
  | succ m ih =>
    intro n x ho h1 h2
    have a := rlT_ok (ft := x.2.1) (fd := x.2.2.1) (D := x.2.2.2) ho h1 h2
    simp only [ltR]; split
    · exact ⟨h1, h2⟩
    · split
      · exact a.2
      · split
        · exact a.2
        · exact ih _ _ (okT_tm a.1) a.2.1 a.2.2
theorem trE_ok {P : TP} {q : Int32 × LTS} (h : 0 ≤ q.2.2.2.2.1 ∧ q.2.2.2.2.1 ≤ 16) : 0 ≤ (trE P q).2.1.2.2.2.1 ∧ (trE P q).2.1.2.2.2.1 ≤ 16 := by
  simp only [trE]; split
  · exact h
  · split
    · exact h
    · exact h
theorem hsR_bo {P : TP} : ∀ (m : Nat) (s : TS) (L : LV), (hsR P m s L).2.2.2.1 = L.2.1 := by
  intro m
  induction m with
  | zero => intro s L; rfl
  | succ m ih =>
    intro s L
    simp only [hsR]; split
    · rfl
    · split
      · exact stT_bo P s L
      · split
        · exact stT_bo P s L
        · rw [ih]; exact stT_bo P s L
theorem hbT_01 (P : TP) (s : TS) : (hbT P s).2.2 = 0 ∨ (hbT P s).2.2 = 1 := by
  simp only [hbT]; split
  · show (if (tmT P (rdT P s)).1 = 0 then (0 : Int32) else 1) = 0 ∨ (if (tmT P (rdT P s)).1 = 0 then (0 : Int32) else 1) = 1
    by_cases h : (tmT P (rdT P s)).1 = 0
    · exact Or.inl (if_pos h)
    · exact Or.inr (if_neg h)
  · exact Or.inl rfl
theorem hrT_01 (P : TP) (s : TS) (a m t : Row) : (hrT P s a m t).2.2.2.1 = 0 ∨ (hrT P s a m t).2.2.2.1 = 1 := by
  simp only [hrT]; split
  · exact Or.inl rfl
  · have h : (hrE P (hsR P 21 (hbT P s).2.1 (0, (hbT P s).2.2, a, m, t))).2.2.2.1 = (hbT P s).2.2 := by
      have e := hsR_bo (P := P) 21 (hbT P s).2.1 (0, (hbT P s).2.2, a, m, t)
      refine Eq.trans ?_ e
      simp only [hrE]; split
      · rfl
      · split <;> rfl
    rw [h]; exact hbT_01 P s
/-! gauges: only the first places matter -/
def gRw (f : Row) (c : Nat) : Row := fun k => pairF f (6 * k + c)
theorem agF_cg {T F B T2 F2 B2 : Row} {n : Nat} (h : ∀ k, k < n → T k = T2 k ∧ F k = F2 k ∧ B k = B2 k) (t off fr bk : Int32) : agF T F B n t off fr bk = agF T2 F2 B2 n t off fr bk := by
  have e : (∀ k, k < n → T k = t → ab (F k - fr) ≤ off ∧ ab (B k - bk) ≤ off) ↔ (∀ k, k < n → T2 k = t → ab (F2 k - fr) ≤ off ∧ ab (B2 k - bk) ≤ off) := by
    constructor
    · intro q k hk e2
      obtain ⟨a, b, c⟩ := h k hk
      rw [← b, ← c]; exact q k hk (by rw [a]; exact e2)
    · intro q k hk e2
      obtain ⟨a, b, c⟩ := h k hk
      rw [b, c]; exact q k hk (by rw [← a]; exact e2)
  simp only [agF]
  by_cases q : ∀ k, k < n → T k = t → ab (F k - fr) ≤ off ∧ ab (B k - bk) ≤ off
  · rw [if_pos q, if_pos (e.mp q)]
  · rw [if_neg q, if_neg (fun z => q (e.mpr z))]
theorem fitV_cg {T F B T2 F2 B2 : Row} {n : Nat} (h : ∀ k, k < n → T k = T2 k ∧ F k = F2 k ∧ B k = B2 k) (off : Int32) (R : RK) (L : LV) (gt hot : Int32) : fitV (T, F, B, n, off) R L gt hot = fitV (T2, F2, B2, n, off) R L gt hot := by
  have e : ∀ (m : Nat) (t : Int32) (S : AS), fitR (T, F, B, n, off) R L m t S = fitR (T2, F2, B2, n, off) R L m t S := by
    intro m
    induction m with
    | zero => intro t S; rfl
    | succ m ih => intro t S; simp only [fitR]; rw [agF_cg h, ih]
  simp only [fitV, e]
theorem gMx_b {f : Row} : ∀ n : Nat, gOk f n 0 ≠ 0 → 0 ≤ gMx f n ∧ gMx f n ≤ 400 := by
  have key : ∀ (n i : Nat), gOk f n i ≠ 0 → ∀ k, i ≤ k → k < i + n → 1 ≤ pairF f (6 * k) ∧ pairF f (6 * k) ≤ 400 := by
    intro n
    induction n with
    | zero => intro i _ k h1 h2; omega
    | succ n ih =>
      intro i h k h1 h2
      simp only [gOk] at h
      by_cases q : pairF f (6 * i) < 1 ∨ 400 < pairF f (6 * i)
      · rw [if_pos q] at h; exact absurd rfl h
      · rw [if_neg q] at h
        by_cases e : k = i
        · subst e; grind
        · exact ih (i + 1) h k (by omega) (by omega)
  intro n h
  have k2 := key n 0 h
  have : ∀ m, m ≤ n → 0 ≤ gMx f m ∧ gMx f m ≤ 400 := by
    intro m
    induction m with
    | zero => intro _; exact ⟨Int32.le_refl _, by show (0 : Int32) ≤ 400; decide⟩
    | succ m ih =>
      intro hm
      have a := ih (by omega)
      have b := k2 m (Nat.zero_le _) (by omega)
      simp only [gMx]
      by_cases q : gMx f m < pairF f (6 * m)
      · rw [if_pos q]; grind
      · rw [if_neg q]; exact a
  exact this n (Nat.le_refl _)
