theorem as_0 : asT asO := by
  intro k hk
  have : ∀ k, k < 16 → asO k = nI k := by decide +kernel
  exact this k hk
theorem J_0 : J w1 z0 := by
  have h500 : w1 500 0 0 = 1 := by decide +kernel
  have e42 : w1 42 0 = fun _ => 0 := rfl
  have t7 : L7 (w1 42 0) (w1 1080 0 0) = upd (upd (fun _ => 0) 32 50) 160 100 := rfl
  refine J_mk ?_ ?_ ?_ ?_ ?_ ?_ ?_ ?_ ?_ ?_
  · exact ⟨rfl, rfl, ⟨by decide +kernel, by decide +kernel⟩, fun k => ⟨Int32.le_refl _, show (0 : Int32) ≤ 255 by decide +kernel⟩⟩
  · refine ⟨⟨by decide +kernel, by decide +kernel, by decide +kernel⟩, ⟨by decide +kernel, by decide +kernel⟩, ⟨by decide +kernel, by decide +kernel⟩, ⟨by decide +kernel, by decide +kernel⟩, Or.inl (by decide +kernel), ?_, ?_, as_0⟩
    · intro j hj
      have e : (w1 1074 0 0).toNatClampNeg = 1 := by decide +kernel
      rw [e] at hj
      have : j = 0 := by omega
      subst this
      refine ⟨?_, ?_, ?_, ?_, ?_, ?_, ?_⟩ <;> decide +kernel
    · intro j hj
      have e : (w1 1074 0 0).toNatClampNeg = 1 := by decide +kernel
      rw [e] at hj
      have : j = 0 := by omega
      subst this
      refine ⟨?_, ?_, ?_, ?_, ?_, ?_⟩ <;> decide +kernel
  · refine ⟨by decide +kernel, ⟨by decide +kernel, by decide +kernel⟩, by decide +kernel, ⟨by decide +kernel, fun k hk => ?_⟩, fun k hk => ?_⟩
    · exact absurd hk (Nat.not_lt_zero _)
    · exact absurd hk (Nat.not_lt_zero _)
  · decide +kernel
  · exact ⟨by decide +kernel, fun h => absurd (by decide +kernel) h⟩
  · exact ⟨by decide +kernel, ⟨by decide +kernel, by decide +kernel⟩, fun k hk => absurd hk (Nat.not_lt_zero _)⟩
  · exact ⟨by decide +kernel, ⟨by decide +kernel, by decide +kernel⟩, fun k hk => absurd hk (Nat.not_lt_zero _), Or.inl ⟨by decide +kernel, by decide +kernel, by decide +kernel⟩⟩
  · exact ⟨by decide +kernel, by decide +kernel, by decide +kernel⟩
  · exact ⟨by decide +kernel, ⟨by decide +kernel, by decide +kernel⟩, rfl, rfl, rfl, fun k => Or.inl rfl⟩
  · exact ⟨by decide +kernel, ⟨by decide +kernel, by decide +kernel⟩, rfl⟩
