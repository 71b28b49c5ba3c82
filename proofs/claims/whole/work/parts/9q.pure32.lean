section TZ
variable {K : Pk} {E : En} {A : Nat → Prop} {cc : ByteArray} {nL : Nat} {own : String} {ret : Option FieldType} {rm : Room} {Q : State → Prop} {pc : Nat} {lv : List (Nat × Value)} {st : List Value} {w : Wi} {z : Wj}
theorem v_tZ (C : Cx K E A cc nL own ret rm) (τ a : Nat) (hτ : 100 ≤ τ) (kk : V K E A nL Q pc lv st w (wS z τ a (fun _ => z τ a 0))) : V K E A nL Q pc lv st w z := by
  have hE := C.2.2.2.2.2.2.2.2.2.2
  have h : wc E w z = wc E w (wS z τ a (fun _ => z τ a 0)) := by
    apply List.map_congr_left
    intro q hq
    have h80 := hE.2.1 q hq
    congr 1
    by_cases h13 : q.1 < 13
    · simp only [q_e, if_pos h13]
      congr 2
      apply List.map_congr_left
      intro k _
      have : ∀ t2 a2, wS z τ a (fun _ => z τ a 0) t2 a2 0 = z t2 a2 0 := by
        intro t2 a2
        by_cases hh : t2 = τ ∧ a2 = a
        · simp only [wS, if_pos hh]; rw [hh.1, hh.2]
        · simp only [wS, if_neg hh]
      simp only [q_fv, this]
    · simp only [q_e, if_neg h13, q_ar]
      rw [wS_t _ _ _ _ (by omega)]
  intro H locs ls hls hP hD hS
  rw [h] at hP hD
  exact kk H locs ls hls hP hD hS
end TZ
/-! tokens of the reference: to, from, kind, number, word -/
abbrev GS : Type := Int32 × Int32 × Int32 × Int32 × Int64
def lt_ (c : Int32) : Prop := 97 ≤ c ∧ c ≤ 122
def dg_ (c : Int32) : Prop := 48 ≤ c ∧ c ≤ 57
/-- fuel, place, where it began, letters first, good, number, word -/
def wgo (f : Row) (a : Nat) (le : Int32) : Nat → Nat → Int32 → Int32 → Int64 → Nat × Int32 × Int32 × Int64
  | 0, p, good, nu, wo => (p, good, nu, wo)
  | n + 1, p, good, nu, wo => if (97 ≤ f p ∧ f p ≤ 122) ∨ (48 ≤ f p ∧ f p ≤ 57) then wgo f a le n (p + 1) (if good ≠ 0 ∧ (if 97 ≤ f p ∧ f p ≤ 122 then (1 : Int32) else 0) = le then 1 else 0) (if p - a < 3 then 10 * nu + f p - 48 else nu) (if p - a < 5 then 27 * wo + (f p).toInt64 - 96 else wo) else (p, good, nu, wo)
def knd (good le : Int32) (len : Nat) : Int32 := if good = 0 ∨ (if le ≠ 0 then 5 else 3) < len then 1 else if le ≠ 0 then 2 else 3
def goG (P : TP) (s : GS) : GS :=
  let p := skR P.1 (P.2.1.toNatClampNeg - s.1.toNatClampNeg) s.1.toNatClampNeg
  if P.2.2 < P.2.1 ∧ P.2.2.toNatClampNeg ≤ p then (nI p, P.2.2, 1, s.2.2.2.1, s.2.2.2.2)
  else if P.2.1.toNatClampNeg ≤ p then (nI p, nI p, 0, s.2.2.2.1, s.2.2.2.2)
  else if ¬ ((97 ≤ P.1 p ∧ P.1 p ≤ 122) ∨ (48 ≤ P.1 p ∧ P.1 p ≤ 57)) then (nI p + 1, nI p, (if P.1 p = 59 then 4 else 1), s.2.2.2.1, s.2.2.2.2)
  else
    let le : Int32 := if 97 ≤ P.1 p ∧ P.1 p ≤ 122 then 1 else 0
    let q := wgo P.1 p le (P.2.1.toNatClampNeg - p) p 1 0 0
    (nI q.1, nI p, knd q.2.1 le (q.1 - p), q.2.2.1, q.2.2.2)
theorem wgo_le (f : Row) (a : Nat) (le : Int32) (n : Nat) : ∀ p good nu wo, p ≤ (wgo f a le n p good nu wo).1 ∧ (wgo f a le n p good nu wo).1 ≤ p + n := by
  induction n with
  | zero => intro p good nu wo; exact ⟨Nat.le_refl _, Nat.le_refl _⟩
  | succ n ih =>
    intro p good nu wo; simp only [wgo]; split
    · have := ih (p + 1) (if good ≠ 0 ∧ (if 97 ≤ f p ∧ f p ≤ 122 then (1 : Int32) else 0) = le then 1 else 0) (if p - a < 3 then 10 * nu + f p - 48 else nu) (if p - a < 5 then 27 * wo + (f p).toInt64 - 96 else wo); omega
    · exact ⟨Nat.le_refl _, Nat.le_add_right _ _⟩
