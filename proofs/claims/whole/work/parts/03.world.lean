/-! the world: every object and array of both sides by a tag and an instance; w: ints by (tag, instance, place), z: longs -/
abbrev Wi : Type := Nat → Nat → Nat → Int32
abbrev Wj : Type := Nat → Nat → Nat → Int64
/-- addresses, the classes of int[], boolean[], long[], class ids and slots, the cells that are there -/
abbrev En : Type := (Nat → Nat → Nat) × ClassId × ClassId × ClassId × va_G × List (Nat × Nat)
abbrev En.ad (E : En) : Nat → Nat → Nat := E.1
abbrev En.cI (E : En) : ClassId := E.2.1
abbrev En.cZ (E : En) : ClassId := E.2.2.1
abbrev En.cJ (E : En) : ClassId := E.2.2.2.1
abbrev En.D (E : En) : va_G := E.2.2.2.2.1
abbrev En.U (E : En) : List (Nat × Nat) := E.2.2.2.2.2
def wS {α : Type} (w : Nat → Nat → Nat → α) (t a : Nat) (f : Nat → α) : Nat → Nat → Nat → α := fun t2 a2 => if t2 = t ∧ a2 = a then f else w t2 a2
theorem wS_s {α : Type} (w : Nat → Nat → Nat → α) (t a : Nat) (f : Nat → α) : wS w t a f t a = f := if_pos ⟨rfl, rfl⟩
theorem wS_t {α : Type} (w : Nat → Nat → Nat → α) {t t2 : Nat} (a a2 : Nat) (f : Nat → α) (h : t2 ≠ t) : wS w t a f t2 a2 = w t2 a2 := if_neg (fun q => h q.1)
theorem wS_a {α : Type} (w : Nat → Nat → Nat → α) {t t2 : Nat} {a a2 : Nat} (f : Nat → α) (h : a2 ≠ a) : wS w t a f t2 a2 = w t2 a2 := if_neg (fun q => h q.2)
theorem wS_wS {α : Type} (w : Nat → Nat → Nat → α) (t a : Nat) (f g : Nat → α) : wS (wS w t a f) t a g = wS w t a g := by
  funext t2 a2
  by_cases h : t2 = t ∧ a2 = a
  · simp [wS, h]
  · simp [wS, h]
theorem wS_c {α : Type} (w : Nat → Nat → Nat → α) {t t2 : Nat} (a a2 : Nat) (f g : Nat → α) (h : t2 < t) : wS (wS w t a f) t2 a2 g = wS (wS w t2 a2 g) t a f := by
  funext t3 a3
  by_cases h1 : t3 = t ∧ a3 = a
  · have h2 : ¬ (t3 = t2 ∧ a3 = a2) := by omega
    simp only [wS, if_pos h1, if_neg h2]
  · simp only [wS, if_neg h1]
theorem wS_id {α : Type} (w : Nat → Nat → Nat → α) (t a : Nat) : wS w t a (w t a) = w := by
  funext t2 a2
  by_cases h : t2 = t ∧ a2 = a
  · simp only [wS, if_pos h]; rw [h.1, h.2]
  · simp only [wS, if_neg h]
def q_kdL : List (List (Nat × Nat)) := [[(2, 13), (2, 14), (2, 15), (2, 16), (0, 0), (0, 0), (0, 0), (0, 0), (0, 0), (0, 0)], [(0, 0), (2, 17), (2, 18), (2, 19), (2, 20), (0, 0)], [(3, 5), (3, 4), (6, 5), (6, 0), (2, 21), (2, 22), (2, 23), (0, 0), (0, 0), (2, 24), (0, 0), (0, 0), (2, 25), (2, 26), (0, 0), (0, 0), (0, 0), (0, 0)], [(3, 8), (4, 4)], [(0, 0), (0, 0), (2, 27), (2, 28), (2, 29)], [(0, 0), (0, 0), (0, 0), (2, 30), (2, 31), (2, 32), (2, 33), (2, 34), (2, 35), (2, 36)], [(0, 0), (0, 0), (0, 0), (0, 0), (0, 0), (0, 0), (0, 0)], [(2, 37), (0, 0)], [(3, 7), (0, 0), (0, 0), (0, 0), (0, 0), (0, 0), (0, 0), (0, 0)], [(3, 8), (4, 5), (0, 0), (0, 0)], [(3, 5), (3, 4), (5, 5), (4, 0), (5, 0), (4, 6), (5, 6), (2, 38), (2, 39), (0, 0), (2, 40), (0, 0), (0, 0), (0, 0)], [(3, 7), (3, 8), (3, 9), (3, 3), (3, 5), (3, 4), (3, 0), (3, 6), (3, 10), (3, 2), (3, 1), (0, 0), (0, 0)], [(0, 0), (2, 41), (0, 0), (0, 0), (0, 0), (0, 0), (0, 0), (0, 0), (0, 0), (0, 0), (0, 0), (1, 0), (0, 0), (2, 42), (0, 0), (0, 0), (0, 0), (0, 0), (0, 0), (0, 0), (0, 0), (2, 43), (2, 44), (2, 45), (0, 0), (0, 0), (0, 0), (0, 0), (2, 46), (2, 47), (2, 48), (2, 49), (2, 50), (2, 51), (2, 52), (2, 53), (2, 54), (2, 55), (0, 0), (0, 0), (0, 0), (0, 0), (2, 56), (0, 0), (0, 0), (0, 0), (0, 0), (0, 0), (0, 0), (0, 0), (2, 57), (2, 58), (0, 0), (2, 59), (2, 60), (2, 61), (2, 62), (2, 63), (2, 64), (0, 0), (0, 0), (0, 0), (0, 0), (0, 0), (0, 0), (0, 0), (2, 65), (2, 66), (2, 67), (0, 0), (2, 68), (0, 0)]]
def q_NL : List Nat := [10, 6, 18, 2, 5, 10, 7, 2, 8, 4, 14, 13, 72]
def q_akL : List Nat := [9, 9, 9, 9, 9, 9, 9, 9, 9, 9, 9, 9, 9, 0, 0, 0, 0, 2, 2, 1, 0, 0, 0, 0, 0, 0, 0, 0, 0, 0, 0, 0, 0, 0, 0, 0, 0, 0, 0, 0, 0, 0, 0, 0, 0, 0, 0, 0, 0, 0, 0, 0, 0, 0, 0, 0, 0, 0, 0, 1, 0, 0, 0, 0, 0, 2, 2, 1, 0, 9, 9, 9, 2]
def q_lnL : List Nat := [0, 0, 0, 0, 0, 0, 0, 0, 0, 0, 0, 0, 0, 17, 17, 17, 17, 40, 40, 40, 40, 8, 8, 8, 113, 113, 113, 20, 20, 20, 17, 17, 17, 17, 17, 17, 17, 740, 6, 6, 10, 740, 224, 40, 40, 40, 17, 17, 17, 17, 17, 17, 17, 17, 17, 18, 16, 16, 6, 11, 8, 8, 8, 113, 113, 40, 40, 40, 40, 0, 0, 0, 1]
def q_cntL : List Nat := [4, 1, 1, 1, 2, 4, 3, 1, 1, 1, 1, 1, 1, 4, 4, 4, 4, 1, 1, 1, 1, 1, 1, 1, 1, 1, 1, 2, 2, 2, 4, 4, 4, 4, 4, 4, 4, 1, 1, 1, 1, 1, 1, 1, 1, 1, 1, 1, 1, 1, 1, 1, 1, 1, 1, 1, 1, 1, 1, 1, 1, 1, 1, 1, 1, 1, 1, 1, 1, 0, 0, 0, 1]
def q_kd (t k : Nat) : Nat × Nat := (q_kdL.getD t []).getD k (0, 0)
def q_N (t : Nat) : Nat := q_NL.getD t 0
def q_ak (t : Nat) : Nat := q_akL.getD t 9
def q_ln (t : Nat) : Nat := q_lnL.getD t 0
def q_cnt (t : Nat) : Nat := q_cntL.getD t 0
def q_UC : List (Nat × Nat) := [(0, 0), (0, 1), (0, 2), (0, 3), (1, 0), (2, 0), (3, 0), (4, 0), (4, 1), (5, 0), (5, 1), (5, 2), (5, 3), (6, 0), (6, 1), (6, 2), (7, 0), (8, 0), (9, 0), (10, 0), (11, 0), (13, 0), (13, 1), (13, 2), (13, 3), (14, 0), (14, 1), (14, 2), (14, 3), (15, 0), (15, 1), (15, 2), (15, 3), (16, 0), (16, 1), (16, 2), (16, 3), (17, 0), (18, 0), (19, 0), (20, 0), (21, 0), (22, 0), (23, 0), (24, 0), (25, 0), (26, 0), (27, 0), (27, 1), (28, 0), (28, 1), (29, 0), (29, 1), (30, 0), (30, 1), (30, 2), (30, 3), (31, 0), (31, 1), (31, 2), (31, 3), (32, 0), (32, 1), (32, 2), (32, 3), (33, 0), (33, 1), (33, 2), (33, 3), (34, 0), (34, 1), (34, 2), (34, 3), (35, 0), (35, 1), (35, 2), (35, 3), (36, 0), (36, 1), (36, 2), (36, 3), (37, 0), (38, 0), (39, 0), (40, 0)]
def q_UM : List (Nat × Nat) := [(12, 0), (41, 0), (42, 0), (43, 0), (44, 0), (45, 0), (46, 0), (47, 0), (48, 0), (49, 0), (50, 0), (51, 0), (52, 0), (53, 0), (54, 0), (55, 0), (56, 0), (57, 0), (58, 0), (59, 0), (60, 0), (61, 0), (62, 0), (63, 0), (64, 0), (65, 0), (66, 0), (67, 0), (68, 0)]
def q_fv (E : En) (w : Wi) (z : Wj) (t a k : Nat) : Value := match (q_kd t k).1 with
  | 0 => .int (w (100 + 80 * t + k) a 0)
  | 1 => .long (z (100 + 80 * t + k) a 0)
  | 2 => .ref (E.ad (q_kd t k).2 a)
  | n + 3 => .ref (E.ad (q_kd t k).2 n)
def q_ar (E : En) (w : Wi) (z : Wj) (t a : Nat) : va_E := match q_ak t with
  | 0 => .inl (E.cI, q_ln t, .inl (w t a))
  | 1 => .inl (E.cZ, q_ln t, .inl (w t a))
  | _ => .inl (E.cJ, q_ln t, .inr (.inl (z t a)))
def q_e (E : En) (w : Wi) (z : Wj) (t a : Nat) : va_E := if t < 13 then .inr (t, (List.range (q_N t)).map (q_fv E w z t a)) else q_ar E w z t a
def wc (E : En) (w : Wi) (z : Wj) : va_W := E.U.map fun q => (E.ad q.1 q.2, q_e E w z q.1 q.2)
def q_tys (E : En) : List (ClassId × FieldType) := [(E.cI, .int), (E.cZ, .boolean), (E.cJ, .long)]
/-- the cells of the class's side are there, each once, and tags are below 80 -/
def q_ok (E : En) : Prop := E.U.Nodup ∧ (∀ q ∈ E.U, q.1 < 80) ∧ ∀ q ∈ q_UC, q ∈ E.U
/-- those of the reference's side, too -/
def q_okM (E : En) : Prop := q_ok E ∧ ∀ q ∈ q_UM, q ∈ E.U
theorem wc_at {E : En} {w : Wi} {z : Wj} {t a : Nat} (h : (t, a) ∈ E.U) : ∃ i : Nat, E.U[i]? = some (t, a) ∧ (wc E w z)[i]? = some (E.ad t a, q_e E w z t a) := by
  obtain ⟨i, hi⟩ := List.getElem?_of_mem h
  exact ⟨i, hi, by simp only [wc, List.getElem?_map, hi, Option.map_some]⟩
theorem nd_inj {α : Type} {l : List α} (h : l.Nodup) {i j : Nat} {x : α} (hi : l[i]? = some x) (hj : l[j]? = some x) : i = j := by
  obtain ⟨a1, b1⟩ := List.getElem?_eq_some_iff.mp hi
  obtain ⟨a2, b2⟩ := List.getElem?_eq_some_iff.mp hj
  rcases Nat.lt_trichotomy i j with q | q | q
  · exact absurd (b1.trans b2.symm) (List.pairwise_iff_getElem.mp h i j a1 a2 q)
  · exact q
  · exact absurd (b2.trans b1.symm) (List.pairwise_iff_getElem.mp h j i a2 a1 q)
theorem wc_set {E : En} {w w2 : Wi} {z z2 : Wj} {t a i : Nat} {e : va_E} (hn : E.U.Nodup) (hi : E.U[i]? = some (t, a)) (he : q_e E w2 z2 t a = e) (ho : ∀ t2 a2, (t2, a2) ∈ E.U → ¬ (t2 = t ∧ a2 = a) → q_e E w2 z2 t2 a2 = q_e E w z t2 a2) : (wc E w z).set i (E.ad t a, e) = wc E w2 z2 := by
  apply List.ext_getElem?
  intro j
  have hl : i < (wc E w z).length := by
    have := (List.getElem?_eq_some_iff.mp hi).1
    simpa [wc] using this
  by_cases hj : j = i
  · subst hj
    rw [List.getElem?_set_self hl]
    simp only [wc, List.getElem?_map, hi, Option.map_some, he]
  · rw [List.getElem?_set_ne (Ne.symm hj)]
    simp only [wc, List.getElem?_map]
    cases hq : E.U[j]? with
    | none => rfl
    | some q =>
      obtain ⟨t2, a2⟩ := q
      simp only [Option.map_some]
      rw [ho t2 a2 (List.mem_of_getElem? hq)]
      rintro ⟨rfl, rfl⟩
      exact hj (nd_inj hn hq hi)
theorem q_N80 (t : Nat) (h : t < 13) : q_N t ≤ 80 := by
  have : ∀ t, t < 13 → q_N t ≤ 80 := by decide +kernel
  exact this t h
/-- an int field is written -/
theorem wc_putI {E : En} {w : Wi} {z : Wj} {t a k i : Nat} {v : Int32} (hE : q_ok E) (hi : E.U[i]? = some (t, a)) (ht : t < 13) (hk : k < q_N t) (h0 : (q_kd t k).1 = 0) :
    (wc E w z).set i (E.ad t a, .inr (t, ((List.range (q_N t)).map (q_fv E w z t a)).set k (.int v))) = wc E (wS w (100 + 80 * t + k) a (fun _ => v)) z := by
  have hN := q_N80 t ht
  refine wc_set hE.1 hi ?_ ?_
  · simp only [q_e, if_pos ht]
    congr 2
    apply List.ext_getElem?
    intro j
    by_cases hj : j = k
    · subst hj
      rw [List.getElem?_set_self (by simpa using hk), List.getElem?_map, List.getElem?_range hk]
      simp only [Option.map_some, q_fv, h0, wS_s]
    · rw [List.getElem?_set_ne (Ne.symm hj)]
      simp only [List.getElem?_map]
      by_cases hl : j < q_N t
      · rw [List.getElem?_range hl]
        simp only [Option.map_some, q_fv]
        rw [wS_t _ _ _ _ (by omega)]
      · rw [List.getElem?_eq_none (by simpa using hl)]
        rfl
  · intro t2 a2 hm hne
    have h80 := hE.2.1 _ hm
    dsimp only at h80
    by_cases h13 : t2 < 13
    · simp only [q_e, if_pos h13]
      congr 2
      apply List.map_congr_left
      intro k2 hk2
      have hk2 : k2 < q_N t2 := by simpa using hk2
      have hN2 := q_N80 t2 h13
      simp only [q_fv]
      by_cases hc : 100 + 80 * t2 + k2 = 100 + 80 * t + k
      · have ha : a2 ≠ a := fun h => hne ⟨by omega, h⟩
        rw [wS_a _ _ ha]
      · rw [wS_t _ _ _ _ hc]
    · simp only [q_e, if_neg h13, q_ar]
      rw [wS_t _ _ _ _ (by omega)]
theorem wc_putJ {E : En} {w : Wi} {z : Wj} {t a k i : Nat} {v : Int64} (hE : q_ok E) (hi : E.U[i]? = some (t, a)) (ht : t < 13) (hk : k < q_N t) (h0 : (q_kd t k).1 = 1) :
    (wc E w z).set i (E.ad t a, .inr (t, ((List.range (q_N t)).map (q_fv E w z t a)).set k (.long v))) = wc E w (wS z (100 + 80 * t + k) a (fun _ => v)) := by
  have hN := q_N80 t ht
  refine wc_set hE.1 hi ?_ ?_
  · simp only [q_e, if_pos ht]
    congr 2
    apply List.ext_getElem?
    intro j
    by_cases hj : j = k
    · subst hj
      rw [List.getElem?_set_self (by simpa using hk), List.getElem?_map, List.getElem?_range hk]
      simp only [Option.map_some, q_fv, h0, wS_s]
    · rw [List.getElem?_set_ne (Ne.symm hj)]
      simp only [List.getElem?_map]
      by_cases hl : j < q_N t
      · rw [List.getElem?_range hl]
        simp only [Option.map_some, q_fv]
        rw [wS_t _ _ _ _ (by omega)]
      · rw [List.getElem?_eq_none (by simpa using hl)]
        rfl
  · intro t2 a2 hm hne
    have h80 := hE.2.1 _ hm
    dsimp only at h80
    by_cases h13 : t2 < 13
    · simp only [q_e, if_pos h13]
      congr 2
      apply List.map_congr_left
      intro k2 hk2
      have hk2 : k2 < q_N t2 := by simpa using hk2
      have hN2 := q_N80 t2 h13
      simp only [q_fv]
      by_cases hc : 100 + 80 * t2 + k2 = 100 + 80 * t + k
      · have ha : a2 ≠ a := fun h => hne ⟨by omega, h⟩
        rw [wS_a _ _ ha]
      · rw [wS_t _ _ _ _ hc]
    · simp only [q_e, if_neg h13, q_ar]
      rw [wS_t _ _ _ _ (by omega)]
theorem wc_rowI {E : En} {w : Wi} {z : Wj} {t a i : Nat} {f : Nat → Int32} {e : va_E} (hE : q_ok E) (hi : E.U[i]? = some (t, a)) (ht : ¬ t < 13) (he : q_ar E (wS w t a f) z t a = e) :
    (wc E w z).set i (E.ad t a, e) = wc E (wS w t a f) z := by
  have h80 := hE.2.1 _ (List.mem_of_getElem? hi)
  dsimp only at h80
  refine wc_set hE.1 hi ?_ ?_
  · simp only [q_e, if_neg ht, he]
  · intro t2 a2 hm hne
    by_cases h13 : t2 < 13
    · simp only [q_e, if_pos h13]
      congr 2
      apply List.map_congr_left
      intro k2 _
      simp only [q_fv]
      rw [wS_t _ _ _ _ (by omega)]
    · simp only [q_e, if_neg h13, q_ar]
      have : wS w t a f t2 a2 = w t2 a2 := by simp only [wS, if_neg hne]
      rw [this]
theorem wc_rowJ {E : En} {w : Wi} {z : Wj} {t a i : Nat} {f : Nat → Int64} {e : va_E} (hE : q_ok E) (hi : E.U[i]? = some (t, a)) (ht : ¬ t < 13) (he : q_ar E w (wS z t a f) t a = e) :
    (wc E w z).set i (E.ad t a, e) = wc E w (wS z t a f) := by
  have h80 := hE.2.1 _ (List.mem_of_getElem? hi)
  dsimp only at h80
  refine wc_set hE.1 hi ?_ ?_
  · simp only [q_e, if_neg ht, he]
  · intro t2 a2 hm hne
    by_cases h13 : t2 < 13
    · simp only [q_e, if_pos h13]
      congr 2
      apply List.map_congr_left
      intro k2 _
      simp only [q_fv]
      rw [wS_t _ _ _ _ (by omega)]
    · simp only [q_e, if_neg h13, q_ar]
      have : wS z t a f t2 a2 = z t2 a2 := by simp only [wS, if_neg hne]
      rw [this]
