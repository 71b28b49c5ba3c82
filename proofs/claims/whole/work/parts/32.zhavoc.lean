/-! a block of cells that were used as scratch: the world w, but the cells of S are those of u -/
def wB {α : Type} (w : Nat → Nat → Nat → α) (S : List (Nat × Nat)) (u : Nat → Nat → Nat → α) : Nat → Nat → Nat → α := fun t a => if (t, a) ∈ S then u t a else w t a
theorem wB_o {α : Type} (w : Nat → Nat → Nat → α) {S : List (Nat × Nat)} (u : Nat → Nat → Nat → α) {t a : Nat} (h : (t, a) ∉ S) : wB w S u t a = w t a := if_neg h
theorem wB_i {α : Type} (w : Nat → Nat → Nat → α) {S : List (Nat × Nat)} (u : Nat → Nat → Nat → α) {t a : Nat} (h : (t, a) ∈ S) : wB w S u t a = u t a := if_pos h
def keeps {α : Type} (S : List (Nat × Nat)) (w W : Nat → Nat → Nat → α) : Prop := ∀ t a, (t, a) ∉ S → W t a = w t a
theorem kp_r {α : Type} {S : List (Nat × Nat)} {w : Nat → Nat → Nat → α} : keeps S w w := fun _ _ _ => rfl
theorem kp_S {α : Type} {S : List (Nat × Nat)} {w W : Nat → Nat → Nat → α} {t a : Nat} {f : Nat → α} (h : (t, a) ∈ S) (k : keeps S w W) : keeps S w (wS W t a f) := fun t2 a2 hn => by
  have : ¬ (t2 = t ∧ a2 = a) := fun q => hn (by rw [q.1, q.2]; exact h)
  simp only [wS, if_neg this]
  exact k t2 a2 hn
theorem kp_B {α : Type} {S S1 : List (Nat × Nat)} {w W u : Nat → Nat → Nat → α} (h : ∀ q ∈ S1, q ∈ S) (k : keeps S w W) : keeps S w (wB W S1 u) := fun t2 a2 hn => by
  rw [wB_o _ _ (fun q => hn (h _ q))]
  exact k t2 a2 hn
theorem kp_add {α : Type} {S : List (Nat × Nat)} {w W : Nat → Nat → Nat → α} {t a : Nat} {e : Nat → α} (he : W t a = e) (k : keeps ((t, a) :: S) w W) : keeps S (wS w t a e) W := fun t2 a2 hn => by
  by_cases q : t2 = t ∧ a2 = a
  · rw [q.1, q.2, wS_s, he]
  · simp only [wS, if_neg q]
    refine k t2 a2 (fun z => ?_)
    rcases List.mem_cons.mp z with z | z
    · exact q (Prod.mk.inj z)
    · exact hn z
theorem kp_e {α : Type} {S : List (Nat × Nat)} {w W : Nat → Nat → Nat → α} (k : keeps S w W) : W = wB w S W := by
  funext t a
  by_cases h : (t, a) ∈ S
  · rw [wB_i _ _ h]
  · rw [wB_o _ _ h]; exact k t a h

abbrev SC1 : List (Nat × Nat) := [(13, 1), (14, 1), (15, 1), (16, 1), (104, 1), (105, 1), (106, 1), (107, 1), (108, 1), (109, 1), (580, 1), (581, 1), (582, 1), (583, 1), (584, 1), (585, 1), (586, 1)]
abbrev SC2 : List (Nat × Nat) := [(13, 1), (14, 1), (15, 1), (16, 1), (30, 2), (31, 2), (32, 2), (33, 2), (34, 2), (35, 2), (36, 2), (38, 0), (104, 1), (105, 1), (106, 1), (107, 1), (108, 1), (109, 1), (500, 2), (501, 2), (502, 2), (580, 1), (581, 1), (582, 1), (583, 1), (584, 1), (585, 1), (586, 1)]
abbrev SC3 : List (Nat × Nat) := [(13, 1), (13, 2), (14, 1), (14, 2), (15, 1), (15, 2), (16, 1), (16, 2), (104, 1), (104, 2), (105, 1), (105, 2), (106, 1), (106, 2), (107, 1), (107, 2), (108, 1), (108, 2), (109, 1), (109, 2), (580, 1), (580, 2), (581, 1), (581, 2), (582, 1), (582, 2), (583, 1), (583, 2), (584, 1), (584, 2), (585, 1), (585, 2), (586, 1), (586, 2)]
abbrev SC4 : List (Nat × Nat) := [(13, 1), (14, 1), (15, 1), (16, 1), (30, 2), (31, 2), (32, 2), (33, 2), (34, 2), (35, 2), (36, 2), (40, 0), (104, 1), (105, 1), (106, 1), (107, 1), (108, 1), (109, 1), (500, 2), (501, 2), (502, 2), (580, 1), (581, 1), (582, 1), (583, 1), (584, 1), (585, 1), (586, 1)]
