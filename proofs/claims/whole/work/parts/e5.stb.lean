/-- all addresses: of one side, of the other, of the law's cell, of the strings -/
def adA (a1 a2 aS : Nat → Nat → Nat) (q : Nat) : Nat → Nat → Nat := fun t a => if t = 12 ∨ (41 ≤ t ∧ t ≤ 68) then a2 t a else if t = 72 then q else if t = 69 ∨ t = 70 ∨ t = 71 then aS t a else a1 t a
theorem adA_1 (a1 a2 aS : Nat → Nat → Nat) (q : Nat) {t : Nat} (a : Nat) (h : t ≤ 40 ∧ t ≠ 12) : adA a1 a2 aS q t a = a1 t a := by
  simp only [adA]
  rw [if_neg (by omega), if_neg (by omega), if_neg (by omega)]
theorem adA_2 (a1 a2 aS : Nat → Nat → Nat) (q : Nat) {t : Nat} (a : Nat) (h : t = 12 ∨ (41 ≤ t ∧ t ≤ 68)) : adA a1 a2 aS q t a = a2 t a := if_pos h
theorem kd_1 : ∀ t, t < 12 → ∀ k, k < q_N t → (q_kd t k).1 < 2 ∨ ((q_kd t k).2 ≤ 40 ∧ (q_kd t k).2 ≠ 12) := by decide +kernel
theorem kd_2 : ∀ k, k < q_N 12 → (q_kd 12 k).1 < 2 ∨ ((q_kd 12 k).2 = 12 ∨ (41 ≤ (q_kd 12 k).2 ∧ (q_kd 12 k).2 ≤ 68)) := by decide +kernel
theorem fv_cg {E F : En} {w w' : Wi} {z z' : Wj} {t a k : Nat} (hw : w (100 + 80 * t + k) a = w' (100 + 80 * t + k) a) (hz : z (100 + 80 * t + k) a = z' (100 + 80 * t + k) a) (h : (q_kd t k).1 < 2 ∨ ∀ a, E.ad (q_kd t k).2 a = F.ad (q_kd t k).2 a) : q_fv E w z t a k = q_fv F w' z' t a k := by
  simp only [q_fv]
  rcases hk : (q_kd t k).1 with _ | _ | _ | n
  · simp only [hw]
  · simp only [hz]
  · rcases h with h | h
    · omega
    · simp only [h]
  · rcases h with h | h
    · omega
    · simp only [h]
theorem e_cg {E F : En} {w w' : Wi} {z z' : Wj} {t a : Nat} (h13 : t < 13) (h : ∀ k, k < q_N t → q_fv E w z t a k = q_fv F w' z' t a k) : q_e E w z t a = q_e F w' z' t a := by
  rw [show q_e E w z t a = .inr (t, (List.range (q_N t)).map (q_fv E w z t a)) from if_pos h13, show q_e F w' z' t a = .inr (t, (List.range (q_N t)).map (q_fv F w' z' t a)) from if_pos h13, List.map_congr_left (fun k hk => h k (List.mem_range.mp hk))]
theorem ar_cg {E F : En} {w w' : Wi} {z : Wj} {t a : Nat} (h13 : ¬ t < 13) (hI : E.cI = F.cI) (hZ : E.cZ = F.cZ) (hJ : E.cJ = F.cJ) (hw : w t a = w' t a) : q_e E w z t a = q_e F w' z t a := by
  rw [show q_e E w z t a = q_ar E w z t a from if_neg h13, show q_e F w' z t a = q_ar F w' z t a from if_neg h13]
  simp only [q_ar, hI, hZ, hJ, hw]
theorem e_1 {a1 a2 aS : Nat → Nat → Nat} {q : Nat} {cI cZ cJ : ClassId} {D : va_G} {U V : List (Nat × Nat)} {w : Wi} {z : Wj} {t a : Nat} (h : t ≤ 40 ∧ t ≠ 12) : q_e (adA a1 a2 aS q, cI, cZ, cJ, D, U) w z t a = q_e (a1, cI, cZ, cJ, D, V) w z t a := by
  by_cases h13 : t < 13
  · refine e_cg h13 (fun k hk => fv_cg rfl rfl ?_)
    rcases kd_1 t (by omega) k hk with h1 | h1
    · exact Or.inl h1
    · exact Or.inr (fun a => adA_1 a1 a2 aS q a h1)
  · exact ar_cg h13 rfl rfl rfl rfl
theorem e_2 {a1 a2 aS : Nat → Nat → Nat} {q : Nat} {cI cZ cJ : ClassId} {D : va_G} {U V : List (Nat × Nat)} {w w' : Wi} {z : Wj} {t a : Nat} (hw : ∀ t a, (41 ≤ t ∧ t ≤ 68) ∨ 1060 ≤ t → w t a = w' t a) (h : t = 12 ∨ (41 ≤ t ∧ t ≤ 68)) : q_e (adA a1 a2 aS q, cI, cZ, cJ, D, U) w z t a = q_e (a2, cI, cZ, cJ, D, V) w' z t a := by
  by_cases h13 : t < 13
  · have e : t = 12 := by omega
    subst e
    refine e_cg h13 (fun k hk => fv_cg (hw _ _ (Or.inr (by omega))) rfl ?_)
    rcases kd_2 k hk with h1 | h1
    · exact Or.inl h1
    · exact Or.inr (fun a => adA_2 a1 a2 aS q a h1)
  · exact ar_cg h13 rfl rfl rfl (hw t a (Or.inl (by omega)))
theorem UL_1 : ∀ q ∈ ULc, q.1 ≤ 40 ∧ q.1 ≠ 12 := by decide +kernel
theorem UL_2 : ∀ q ∈ ULm, q.1 = 12 ∨ (41 ≤ q.1 ∧ q.1 ≤ 68) := by decide +kernel
theorem w1_0 (t a : Nat) (h : (41 ≤ t ∧ t ≤ 68) ∨ 1060 ≤ t) : w1 t a = w0 t a := by
  rw [w1, wS_t _ _ _ _ (by omega), wS_t _ _ _ _ (by omega), wS_t _ _ _ _ (by omega), wS_t _ _ _ _ (by omega), wS_t _ _ _ _ (by omega), wS_t _ _ _ _ (by omega), wS_t _ _ _ _ (by omega), wS_t _ _ _ _ (by omega)]
abbrev ULa : List (Nat × Nat) := ULc ++ (ULm ++ [(72, 0)])
theorem wc_join (a1 a2 aS : Nat → Nat → Nat) (q : Nat) (cI cZ cJ : ClassId) (D : va_G) : wc (a1, cI, cZ, cJ, D, ULc) w1 z0 ++ wc (a2, cI, cZ, cJ, D, ULm) w0 z0 ++ [(q, .inl (cJ, 1, .inr (.inl (fun _ => 0))))] = wc (adA a1 a2 aS q, cI, cZ, cJ, D, ULa) w1 z0 := by
  have h1 : wc (a1, cI, cZ, cJ, D, ULc) w1 z0 = ULc.map (fun x => (adA a1 a2 aS q x.1 x.2, q_e (adA a1 a2 aS q, cI, cZ, cJ, D, ULa) w1 z0 x.1 x.2)) := by
    refine List.map_congr_left (fun x hx => ?_)
    have h := UL_1 x hx
    show (a1 x.1 x.2, q_e (a1, cI, cZ, cJ, D, ULc) w1 z0 x.1 x.2) = (adA a1 a2 aS q x.1 x.2, q_e (adA a1 a2 aS q, cI, cZ, cJ, D, ULa) w1 z0 x.1 x.2)
    rw [adA_1 a1 a2 aS q x.2 h, e_1 (V := ULc) h]
  have h2 : wc (a2, cI, cZ, cJ, D, ULm) w0 z0 = ULm.map (fun x => (adA a1 a2 aS q x.1 x.2, q_e (adA a1 a2 aS q, cI, cZ, cJ, D, ULa) w1 z0 x.1 x.2)) := by
    refine List.map_congr_left (fun x hx => ?_)
    have h := UL_2 x hx
    show (a2 x.1 x.2, q_e (a2, cI, cZ, cJ, D, ULm) w0 z0 x.1 x.2) = (adA a1 a2 aS q x.1 x.2, q_e (adA a1 a2 aS q, cI, cZ, cJ, D, ULa) w1 z0 x.1 x.2)
    rw [adA_2 a1 a2 aS q x.2 h, e_2 (V := ULm) (w' := w0) (fun t a ht => w1_0 t a ht) h]
  have h3 : wc (adA a1 a2 aS q, cI, cZ, cJ, D, ULa) w1 z0 = ULa.map (fun x => (adA a1 a2 aS q x.1 x.2, q_e (adA a1 a2 aS q, cI, cZ, cJ, D, ULa) w1 z0 x.1 x.2)) := rfl
  have h4 : [(q, (.inl (cJ, 1, .inr (.inl (fun _ => 0))) : va_E))] = ([(72, 0)] : List (Nat × Nat)).map (fun x => (adA a1 a2 aS q x.1 x.2, q_e (adA a1 a2 aS q, cI, cZ, cJ, D, ULa) w1 z0 x.1 x.2)) := rfl
  rw [h1, h2, h3, h4, List.append_assoc, ← List.map_append, ← List.map_append]
theorem ULa_ok (E : En) (h : E.U = ULa) : q_okM E ∧ (72, 0) ∈ E.U := by
  unfold q_okM q_ok
  rw [h]
  exact ⟨⟨⟨by decide +kernel, by decide +kernel, by decide +kernel⟩, by decide +kernel⟩, by decide +kernel⟩
