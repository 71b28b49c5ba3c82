abbrev P_X2_fittingAt (w : Wi) (z : Wj) (k : Int32) : Int32 → WW → Prop := fun r_ u_ => r_ = (if 0 ≤ k ∧ k < (w 270 0 0) ∧ k < 113 then (w 24 0) (k).toNatClampNeg else (-1)) ∧ u_ = (w, z)
set_option maxHeartbeats 4000000 in
set_option maxRecDepth 100000 in
theorem c_X2_fittingAt (E : En) (hE : q_ok E) (w : Wi) (z : Wj) (k : Int32) : CtI M_X2_fittingAt E [.ref (E.ad 2 0), .int k] w z (P_X2_fittingAt w z k) := by
  refine ctI_of (lv := [(0, .ref (E.ad 2 0)), (1, .int k)]) hE m_X2_fittingAt (Nat.le_of_ble_eq_true rfl) rfl ?_
  intro K A C0
  have C : Cx K E A cX2_fittingAt 2 RX2 (some .int) { frames := 0, cells := 0, slots := 0, locals := 0 } := C0
  clear C0
  refine v_iload_n C 1 dX2_fittingAt_0 rfl ?_
  refine v_if_lt C 27 dX2_fittingAt_1 (by decide) (fun c_1 => ?_) (fun c_1 => ?_)
  · refine v_iconst (v := (-1)) C dX2_fittingAt_27 (by decide) ?_
    exact v_iret C dX2_fittingAt_28 ⟨(by clear C; grind), (congr (congrArg Prod.mk rfl) rfl)⟩
  · refine v_iload_n C 1 dX2_fittingAt_4 rfl ?_
    refine v_aload_n C 0 dX2_fittingAt_5 rfl ?_
    refine v_gI C 2 0 10 270 (w 270 0 0) (C_m C (u_2 0 (by decide))) k_2 (by decide) rfl rfl x_420 rfl dX2_fittingAt_6 ?_
    refine v_ic_ge C 27 dX2_fittingAt_9 (by decide) (fun c_9 => ?_) (fun c_9 => ?_)
    · refine v_iconst (v := (-1)) C dX2_fittingAt_27 (by decide) ?_
      exact v_iret C dX2_fittingAt_28 ⟨(by clear C; grind), (congr (congrArg Prod.mk rfl) rfl)⟩
    · refine v_iload_n C 1 dX2_fittingAt_12 rfl ?_
      refine v_bipush (v := 113) C dX2_fittingAt_13 (by decide) ?_
      refine v_ic_ge C 27 dX2_fittingAt_15 (by decide) (fun c_15 => ?_) (fun c_15 => ?_)
      · refine v_iconst (v := (-1)) C dX2_fittingAt_27 (by decide) ?_
        exact v_iret C dX2_fittingAt_28 ⟨(by clear C; grind), (congr (congrArg Prod.mk rfl) rfl)⟩
      · refine v_aload_n C 0 dX2_fittingAt_18 rfl ?_
        refine v_gR C 2 0 9 24 0 (C_m C (u_2 0 (by decide))) k_2 (by decide) x_419 (fun _ _ _ => rfl) dX2_fittingAt_19 ?_
        refine v_iload_n C 1 dX2_fittingAt_22 rfl ?_
        refine v_iald C 24 0 (C_m C (u_24 0 (by decide))) ⟨by decide, rfl, rfl⟩ (v_in (N := 113) (by decide) (by clear C; grind) (by clear C; grind)) dX2_fittingAt_23 ?_
        refine v_goto C 28 dX2_fittingAt_24 (by decide) ?_
        exact v_iret C dX2_fittingAt_28 ⟨(by clear C; grind), (congr (congrArg Prod.mk rfl) rfl)⟩
abbrev P_X2_canWalk (w : Wi) (z : Wj) : Int32 → WW → Prop := fun r_ u_ => r_ = (if 0 < (w 271 0 0) ∧ (w 271 0 0) = (w 500 0 0) then 1 else 0) ∧ u_ = (w, z)
set_option maxHeartbeats 4000000 in
set_option maxRecDepth 100000 in
theorem c_X2_canWalk (E : En) (hE : q_ok E) (w : Wi) (z : Wj) : CtI M_X2_canWalk E [.ref (E.ad 2 0)] w z (P_X2_canWalk w z) := by
  refine ctI_of (lv := [(0, .ref (E.ad 2 0))]) hE m_X2_canWalk (Nat.le_of_ble_eq_true rfl) rfl ?_
  intro K A C0
  have C : Cx K E A cX2_canWalk 1 RX2 (some .boolean) { frames := 0, cells := 0, slots := 0, locals := 0 } := C0
  clear C0
  refine v_aload_n C 0 dX2_canWalk_0 rfl ?_
  refine v_gI C 2 0 11 271 (w 271 0 0) (C_m C (u_2 0 (by decide))) k_2 (by decide) rfl rfl x_421 rfl dX2_canWalk_1 ?_
  refine v_if_le C 25 dX2_canWalk_4 (by decide) (fun c_4 => ?_) (fun c_4 => ?_)
  · refine v_iconst (v := 0) C dX2_canWalk_25 (by decide) ?_
    exact v_zret C dX2_canWalk_26 (by decide) ⟨(by clear C; grind), (congr (congrArg Prod.mk rfl) rfl)⟩
  · refine v_aload_n C 0 dX2_canWalk_7 rfl ?_
    refine v_gI C 2 0 11 271 (w 271 0 0) (C_m C (u_2 0 (by decide))) k_2 (by decide) rfl rfl x_421 rfl dX2_canWalk_8 ?_
    refine v_aload_n C 0 dX2_canWalk_11 rfl ?_
    refine v_gR C 2 0 0 5 0 (C_m C (u_2 0 (by decide))) k_2 (by decide) x_410 (fun _ _ _ => rfl) dX2_canWalk_12 ?_
    refine v_gI C 5 0 0 500 (w 500 0 0) (C_m C (u_5 0 (by decide))) k_5 (by decide) rfl rfl x_170 rfl dX2_canWalk_15 ?_
    refine v_ic_ne C 25 dX2_canWalk_18 (by decide) (fun c_18 => ?_) (fun c_18 => ?_)
    · refine v_iconst (v := 0) C dX2_canWalk_25 (by decide) ?_
      exact v_zret C dX2_canWalk_26 (by decide) ⟨(by clear C; grind), (congr (congrArg Prod.mk rfl) rfl)⟩
    · refine v_iconst (v := 1) C dX2_canWalk_21 (by decide) ?_
      refine v_goto C 26 dX2_canWalk_22 (by decide) ?_
      exact v_zret C dX2_canWalk_26 (by decide) ⟨(by clear C; grind), (congr (congrArg Prod.mk rfl) rfl)⟩
abbrev P_X2_usefulCars (w : Wi) (z : Wj) : Int32 → WW → Prop := fun r_ u_ => r_ = (usR (w 25 0) ((w 274 0 0)).toNatClampNeg) ∧ u_ = (w, z)
set_option maxHeartbeats 4000000 in
set_option maxRecDepth 100000 in
theorem c_X2_usefulCars (E : En) (hE : q_ok E) (w : Wi) (z : Wj) (h1 : 0 ≤ (w 274 0 0)) (h2 : (w 274 0 0) ≤ 113) : CtI M_X2_usefulCars E [.ref (E.ad 2 0)] w z (P_X2_usefulCars w z) := by
  refine ctI_of (lv := [(0, .ref (E.ad 2 0))]) hE m_X2_usefulCars (Nat.le_of_ble_eq_true rfl) rfl ?_
  intro K A C0
  have C : Cx K E A cX2_usefulCars 3 RX2 (some .int) { frames := 0, cells := 0, slots := 0, locals := 0 } := C0
  clear C0
  refine v_iconst (v := 0) C dX2_usefulCars_0 (by decide) ?_
  refine v_istore_n (lv2 := [(1, .int 0), (0, .ref (E.ad 2 0))]) C dX2_usefulCars_1 rfl (by decide) rfl ?_
  refine v_iconst (v := 1) C dX2_usefulCars_2 (by decide) ?_
  refine v_istore_n (lv2 := [(2, .int 1), (1, .int 0), (0, .ref (E.ad 2 0))]) C dX2_usefulCars_3 rfl (by decide) rfl ?_
  have hL4 : ∀ (n_ : Nat) (u1 : Int32) (i : Int32), (200 - i).toNatClampNeg < n_ → (1 ≤ i ∧ (i ≤ (w 274 0 0) ∨ i = 1) ∧ u1 = usR (w 25 0) i.toNatClampNeg) → V K E A 3 (QI K E A (P_X2_usefulCars w z)) 4 [(2, .int i), (1, .int u1), (0, .ref (E.ad 2 0))] [] w z := by
    intro n_
    induction n_ with
    | zero => intro u1 i hm_; exact absurd hm_ (Nat.not_lt_zero _)
    | succ n_ ih_4 =>
      intro u1 i hm_ hinv
      obtain ⟨g1, g2, g3⟩ := hinv
      refine v_iload_n C 0 dX2_usefulCars_4 rfl ?_
      refine v_aload_n C 2 dX2_usefulCars_5 rfl ?_
      refine v_gI C 2 0 14 274 (w 274 0 0) (C_m C (u_2 0 (by decide))) k_2 (by decide) rfl rfl x_424 rfl dX2_usefulCars_6 ?_
      refine v_ic_ge C 40 dX2_usefulCars_9 (by decide) (fun c_9 => ?_) (fun c_9 => ?_)
      · refine v_iload_n C 1 dX2_usefulCars_40 rfl ?_
        exact v_iret C dX2_usefulCars_41 ⟨(by clear C ih_4; rcases g2 with q | q; (rw [show (w 274 0 0) = i by grind]; exact g3); (subst q; rcases (show (w 274 0 0) = 0 ∨ (w 274 0 0) = 1 by grind) with q | q <;> rw [q] <;> exact g3)), (congr (congrArg Prod.mk rfl) rfl)⟩
      · refine v_iload_n C 0 dX2_usefulCars_12 rfl ?_
        refine v_bipush (v := 113) C dX2_usefulCars_13 (by decide) ?_
        refine v_ic_ge C 40 dX2_usefulCars_15 (by decide) (fun c_15 => absurd c_15 (by clear C ih_4; grind)) (fun c_15 => ?_)
        refine v_iload_n C 1 dX2_usefulCars_18 rfl ?_
        refine v_aload_n C 2 dX2_usefulCars_19 rfl ?_
        refine v_gR C 2 0 12 25 0 (C_m C (u_2 0 (by decide))) k_2 (by decide) x_422 (fun _ _ _ => rfl) dX2_usefulCars_20 ?_
        refine v_iload_n C 0 dX2_usefulCars_23 rfl ?_
        refine v_iald C 25 0 (C_m C (u_25 0 (by decide))) ⟨by decide, rfl, rfl⟩ (v_in (N := 113) (by decide) (by clear C ih_4; grind) (by clear C ih_4; grind)) dX2_usefulCars_24 ?_
        refine v_aload_n C 2 dX2_usefulCars_25 rfl ?_
        refine v_gR C 2 0 12 25 0 (C_m C (u_2 0 (by decide))) k_2 (by decide) x_422 (fun _ _ _ => rfl) dX2_usefulCars_26 ?_
        refine v_iconst (v := 0) C dX2_usefulCars_29 (by decide) ?_
        refine v_iald C 25 0 (C_m C (u_25 0 (by decide))) ⟨by decide, rfl, rfl⟩ (v_in (x := 0) (N := 113) (by decide) (by decide) (by decide)) dX2_usefulCars_30 ?_
        refine v_i (y := ((w 25 0) 0)) rfl ?_
        refine v_ixor C dX2_usefulCars_31 ?_
        refine v_ior C dX2_usefulCars_32 ?_
        refine v_istore_n (lv2 := [(1, .int (u1 ||| (((w 25 0) i.toNatClampNeg) ^^^ ((w 25 0) 0)))), (2, .int i), (0, .ref (E.ad 2 0))]) C dX2_usefulCars_33 rfl (by decide) rfl ?_
        refine v_iinc (v := i + 1) (lv2 := [(2, .int (i + 1)), (1, .int (u1 ||| (((w 25 0) i.toNatClampNeg) ^^^ ((w 25 0) 0)))), (0, .ref (E.ad 2 0))]) C 1 dX2_usefulCars_34 rfl rfl (by decide) rfl ?_
        refine v_goto C 4 dX2_usefulCars_37 (by decide) ?_
        exact ih_4 (u1 ||| (((w 25 0) i.toNatClampNeg) ^^^ ((w 25 0) 0))) (i + 1) (by clear C ih_4; exact Nat.lt_of_lt_of_le (m_up (by grind) (by grind)) (Nat.le_of_lt_succ hm_)) (by clear C ih_4; exact ⟨by grind, by grind, by rw [cl_succ (by grind) (by grind), usR_s _ (cl_pos g1), g3]⟩)
  exact hL4 _ 0 1 (Nat.lt_succ_self _) (by clear C hL4; exact ⟨by decide, Or.inr rfl, rfl⟩)
abbrev P_X2_partsAll (w : Wi) (z : Wj) (st : Int32) : Int32 → WW → Prop := fun r_ u_ => r_ = (paF (w 25 0) ((w 274 0 0)).toNatClampNeg st) ∧ u_ = (w, z)
set_option maxHeartbeats 4000000 in
set_option maxRecDepth 100000 in
theorem c_X2_partsAll (E : En) (hE : q_ok E) (w : Wi) (z : Wj) (st : Int32) (h1 : 0 ≤ (w 274 0 0)) (h2 : (w 274 0 0) ≤ 113) : CtI M_X2_partsAll E [.ref (E.ad 2 0), .int st] w z (P_X2_partsAll w z st) := by
  refine ctI_of (lv := [(0, .ref (E.ad 2 0)), (1, .int st)]) hE m_X2_partsAll (Nat.le_of_ble_eq_true rfl) rfl ?_
  intro K A C0
  have C : Cx K E A cX2_partsAll 4 RX2 (some .boolean) { frames := 0, cells := 0, slots := 0, locals := 0 } := C0
  clear C0
  refine v_iconst (v := 0) C dX2_partsAll_0 (by decide) ?_
  refine v_istore_n (lv2 := [(2, .int 0), (0, .ref (E.ad 2 0)), (1, .int st)]) C dX2_partsAll_1 rfl (by decide) rfl ?_
  have hL2 : ∀ (n_ : Nat) (i : Int32), (200 - i).toNatClampNeg < n_ → (0 ≤ i ∧ i ≤ (w 274 0 0) ∧ ∀ i2, i2 < i.toNatClampNeg → ∀ j, j < i2 → ¬ ((w 25 0) i2 ^^^ (w 25 0) j) &&& st = 0) → V K E A 4 (QI K E A (P_X2_partsAll w z st)) 2 [(2, .int i), (0, .ref (E.ad 2 0)), (1, .int st)] [] w z := by
    intro n_
    induction n_ with
    | zero => intro i hm_; exact absurd hm_ (Nat.not_lt_zero _)
    | succ n_ ih_2 =>
      intro i hm_ hinv
      obtain ⟨g1, g2, g3⟩ := hinv
      have hm1 := hm_
      refine v_iload_n C 0 dX2_partsAll_2 rfl ?_
      refine v_aload_n C 1 dX2_partsAll_3 rfl ?_
      refine v_gI C 2 0 14 274 (w 274 0 0) (C_m C (u_2 0 (by decide))) k_2 (by decide) rfl rfl x_424 rfl dX2_partsAll_4 ?_
      refine v_ic_ge C 55 dX2_partsAll_7 (by decide) (fun c_7 => ?_) (fun c_7 => ?_)
      · refine v_iconst (v := 1) C dX2_partsAll_55 (by decide) ?_
        exact v_zret C dX2_partsAll_56 (by decide) ⟨(by clear C ih_2; simp only [paF]; rw [if_pos (by rw [show (w 274 0 0) = i by clear g3; grind]; exact g3)]), (congr (congrArg Prod.mk rfl) rfl)⟩
      · refine v_iload_n C 0 dX2_partsAll_10 rfl ?_
        refine v_bipush (v := 113) C dX2_partsAll_11 (by decide) ?_
        refine v_ic_ge C 55 dX2_partsAll_13 (by decide) (fun c_13 => absurd c_13 (by clear C ih_2; clear g3; grind)) (fun c_13 => ?_)
        refine v_iconst (v := 0) C dX2_partsAll_16 (by decide) ?_
        refine v_istore_n (lv2 := [(3, .int 0), (2, .int i), (0, .ref (E.ad 2 0)), (1, .int st)]) C dX2_partsAll_17 rfl (by decide) rfl ?_
        have hL18 : ∀ (n_ : Nat) (j : Int32), (200 - j).toNatClampNeg < n_ → (0 ≤ j ∧ j ≤ i ∧ ∀ j2, j2 < j.toNatClampNeg → ¬ ((w 25 0) i.toNatClampNeg ^^^ (w 25 0) j2) &&& st = 0) → V K E A 4 (QI K E A (P_X2_partsAll w z st)) 18 [(3, .int j), (2, .int i), (0, .ref (E.ad 2 0)), (1, .int st)] [] w z := by
          intro n_
          induction n_ with
          | zero => intro j hm_; exact absurd hm_ (Nat.not_lt_zero _)
          | succ n_ ih_18 =>
            intro j hm_ hinv
            obtain ⟨g4, g5, g6⟩ := hinv
            refine v_iload_n C 0 dX2_partsAll_18 rfl ?_
            refine v_iload_n C 1 dX2_partsAll_19 rfl ?_
            refine v_ic_ge C 49 dX2_partsAll_20 (by decide) (fun c_20 => ?_) (fun c_20 => ?_)
            · refine v_iinc (v := i + 1) (lv2 := [(2, .int (i + 1)), (3, .int j), (0, .ref (E.ad 2 0)), (1, .int st)]) C 1 dX2_partsAll_49 rfl rfl (by decide) rfl ?_
              refine v_goto C 2 dX2_partsAll_52 (by decide) ?_
              refine v_l [0, 2, 3] rfl ?_
              exact ih_2 (i + 1) (by clear C ih_2 ih_18; exact Nat.lt_of_lt_of_le (m_up (by clear g3; grind) (by clear g3; grind)) (Nat.le_of_lt_succ hm1)) (by clear C ih_2 ih_18; refine ⟨by clear g3 g6; grind, by clear g3 g6; grind, fun i2 h j hj => ?_⟩; rw [cl_succ g1 (by clear g3 g6; grind)] at h; by_cases q : i2 = i.toNatClampNeg; (rw [q]; exact g6 j (by have := (cl_le g1 g4).mpr (by clear g3 g6; grind); omega)); exact g3 i2 (by omega) j hj)
            · refine v_aload_n C 2 dX2_partsAll_23 rfl ?_
              refine v_gR C 2 0 12 25 0 (C_m C (u_2 0 (by decide))) k_2 (by decide) x_422 (fun _ _ _ => rfl) dX2_partsAll_24 ?_
              refine v_iload_n C 1 dX2_partsAll_27 rfl ?_
              refine v_iald C 25 0 (C_m C (u_25 0 (by decide))) ⟨by decide, rfl, rfl⟩ (by exact v_in (N := 113) (by decide) (by clear g3 g6; grind) (by clear g3 g6; grind)) dX2_partsAll_28 ?_
              refine v_aload_n C 2 dX2_partsAll_29 rfl ?_
              refine v_gR C 2 0 12 25 0 (C_m C (u_2 0 (by decide))) k_2 (by decide) x_422 (fun _ _ _ => rfl) dX2_partsAll_30 ?_
              refine v_iload_n C 0 dX2_partsAll_33 rfl ?_
              refine v_iald C 25 0 (C_m C (u_25 0 (by decide))) ⟨by decide, rfl, rfl⟩ (by exact v_in (N := 113) (by decide) (by clear g3 g6; grind) (by clear g3 g6; grind)) dX2_partsAll_34 ?_
              refine v_ixor C dX2_partsAll_35 ?_
              refine v_iload_n C 3 dX2_partsAll_36 rfl ?_
              refine v_iand C dX2_partsAll_37 ?_
              refine v_if_ne C 43 dX2_partsAll_38 (by decide) (fun c_38 => ?_) (fun c_38 => ?_)
              · refine v_iinc (v := j + 1) (lv2 := [(3, .int (j + 1)), (2, .int i), (0, .ref (E.ad 2 0)), (1, .int st)]) C 0 dX2_partsAll_43 rfl rfl (by decide) rfl ?_
                refine v_goto C 18 dX2_partsAll_46 (by decide) ?_
                exact ih_18 (j + 1) (by clear C ih_2 ih_18; exact Nat.lt_of_lt_of_le (m_up (by clear g3 g6; grind) (by clear g3 g6; grind)) (Nat.le_of_lt_succ hm_)) (by clear C ih_2 ih_18; refine ⟨by clear g3 g6; grind, by clear g3 g6; grind, fun j2 h => ?_⟩; rw [cl_succ g4 (by clear g3 g6; grind)] at h; by_cases q : j2 = j.toNatClampNeg; (rw [q]; assumption); exact g6 j2 (by omega))
              · refine v_iconst (v := 0) C dX2_partsAll_41 (by decide) ?_
                exact v_zret C dX2_partsAll_42 (by decide) ⟨(by clear C ih_2 ih_18; simp only [paF]; rw [if_neg (fun q => q _ ((cl_lt g1 h1).mpr (by clear g3 g6 q; grind)) _ ((cl_lt g4 g1).mpr (by clear g3 g6 q; grind)) (by assumption))]), (congr (congrArg Prod.mk rfl) rfl)⟩
        exact hL18 _ 0 (Nat.lt_succ_self _) (by clear C ih_2 hL18; exact ⟨by decide, g1, fun i2 h => absurd h (Nat.not_lt_zero _)⟩)
  exact hL2 _ 0 (Nat.lt_succ_self _) (by clear C hL2; exact ⟨by decide, h1, fun i2 h => absurd h (Nat.not_lt_zero _)⟩)
abbrev P_X2_addHotSet (w : Wi) (z : Wj) (st : Int32) : WW → Prop := fun u_ => u_ = ((wS (wS (wS (wS w 25 0 ((ahF ((w 25 0), (w 26 0), (w 274 0 0), (w 277 0 0)) st).1)) 26 0 ((ahF ((w 25 0), (w 26 0), (w 274 0 0), (w 277 0 0)) st).2.1)) 274 0 (fun _ => (ahF ((w 25 0), (w 26 0), (w 274 0 0), (w 277 0 0)) st).2.2.1)) 277 0 (fun _ => (ahF ((w 25 0), (w 26 0), (w 274 0 0), (w 277 0 0)) st).2.2.2)), z)
set_option maxHeartbeats 4000000 in
set_option maxRecDepth 100000 in
theorem c_X2_addHotSet (E : En) (hE : q_ok E) (w : Wi) (z : Wj) (st : Int32) (h1 : 0 ≤ (w 274 0 0)) (h2 : (w 274 0 0) < 113) : CtV M_X2_addHotSet E [.ref (E.ad 2 0), .int st] w z (P_X2_addHotSet w z st) := by
  refine ctV_of (lv := [(0, .ref (E.ad 2 0)), (1, .int st)]) hE m_X2_addHotSet (Nat.le_of_ble_eq_true rfl) rfl ?_
  intro K A C0
  have C : Cx K E A cX2_addHotSet 3 RX2 none { frames := 0, cells := 0, slots := 0, locals := 0 } := C0
  clear C0
  refine v_iconst (v := 0) C dX2_addHotSet_0 (by decide) ?_
  refine v_istore_n (lv2 := [(2, .int 0), (0, .ref (E.ad 2 0)), (1, .int st)]) C dX2_addHotSet_1 rfl (by decide) rfl ?_
  have hL2 : ∀ (n_ : Nat) (i : Int32), (200 - i).toNatClampNeg < n_ → (0 ≤ i ∧ i ≤ (w 274 0 0) ∧ fdR (w 25 0) st i.toNatClampNeg = i.toNatClampNeg) → V K E A 3 (QV K E A (P_X2_addHotSet w z st)) 2 [(2, .int i), (0, .ref (E.ad 2 0)), (1, .int st)] [] w z := by
    intro n_
    induction n_ with
    | zero => intro i hm_; exact absurd hm_ (Nat.not_lt_zero _)
    | succ n_ ih_2 =>
      intro i hm_ hinv
      obtain ⟨g1, g2, g3⟩ := hinv
      refine v_iload_n C 0 dX2_addHotSet_2 rfl ?_
      refine v_aload_n C 1 dX2_addHotSet_3 rfl ?_
      refine v_gI C 2 0 14 274 (w 274 0 0) (C_m C (u_2 0 (by decide))) k_2 (by decide) rfl rfl x_424 rfl dX2_addHotSet_4 ?_
      refine v_ic_ge C 58 dX2_addHotSet_7 (by decide) (fun c_7 => ?_) (fun c_7 => ?_)
      · refine v_aload_n C 1 dX2_addHotSet_58 rfl ?_
        refine v_gI C 2 0 14 274 (w 274 0 0) (C_m C (u_2 0 (by decide))) k_2 (by decide) rfl rfl x_424 rfl dX2_addHotSet_59 ?_
        refine v_bipush (v := 113) C dX2_addHotSet_62 (by decide) ?_
        refine v_ic_ge C 97 dX2_addHotSet_64 (by decide) (fun c_64 => absurd c_64 (by clear C ih_2; grind)) (fun c_64 => ?_)
        refine v_aload_n C 1 dX2_addHotSet_67 rfl ?_
        refine v_gR C 2 0 12 25 0 (C_m C (u_2 0 (by decide))) k_2 (by decide) x_422 (fun _ _ _ => rfl) dX2_addHotSet_68 ?_
        refine v_aload_n C 1 dX2_addHotSet_71 rfl ?_
        refine v_gI C 2 0 14 274 (w 274 0 0) (C_m C (u_2 0 (by decide))) k_2 (by decide) rfl rfl x_424 rfl dX2_addHotSet_72 ?_
        refine v_iload_n C 2 dX2_addHotSet_75 rfl ?_
        refine v_iast C 25 0 (C_m C (u_25 0 (by decide))) ⟨by decide, rfl, rfl⟩ (v_in (N := 113) (by decide) (by clear C ih_2; grind) (by clear C ih_2; grind)) dX2_addHotSet_76 ?_
        refine v_aload_n C 1 dX2_addHotSet_77 rfl ?_
        refine v_gR C 2 0 13 26 0 (C_m C (u_2 0 (by decide))) k_2 (by decide) x_423 (fun _ _ _ => rfl) dX2_addHotSet_78 ?_
        refine v_aload_n C 1 dX2_addHotSet_81 rfl ?_
        refine v_gI C 2 0 14 274 (w 274 0 0) (C_m C (u_2 0 (by decide))) k_2 (by decide) rfl rfl x_424 (by simp only [wS_s, wS_t, wS_a, ne_eq, Nat.reduceEqDiff, not_false_eq_true]) dX2_addHotSet_82 ?_
        refine v_iconst (v := 1) C dX2_addHotSet_85 (by decide) ?_
        refine v_iast C 26 0 (C_m C (u_26 0 (by decide))) ⟨by decide, rfl, rfl⟩ (v_in (N := 113) (by decide) (by clear C ih_2; grind) (by clear C ih_2; grind)) dX2_addHotSet_86 ?_
        refine v_aload_n C 1 dX2_addHotSet_87 rfl ?_
        refine v_dup C dX2_addHotSet_88 rfl ?_
        refine v_gI C 2 0 14 274 (w 274 0 0) (C_m C (u_2 0 (by decide))) k_2 (by decide) rfl rfl x_424 (by simp only [wS_s, wS_t, wS_a, ne_eq, Nat.reduceEqDiff, not_false_eq_true]) dX2_addHotSet_89 ?_
        refine v_iconst (v := 1) C dX2_addHotSet_92 (by decide) ?_
        refine v_iadd C dX2_addHotSet_93 ?_
        refine v_pI C 2 0 14 274 (C_m C (u_2 0 (by decide))) k_2 ty_2 (by decide) rfl ⟨rfl, rfl⟩ x_424 rfl rfl dX2_addHotSet_94 ?_
        refine v_tS C 277 0 (by decide) ?_
        refine v_w (w2 := (wS (wS (wS (wS w 25 0 (upd (w 25 0) (w 274 0 0).toNatClampNeg st)) 26 0 (upd (w 26 0) (w 274 0 0).toNatClampNeg 1)) 274 0 (fun _ => ((w 274 0 0) + 1))) 277 0 (fun _ => (w 277 0 0)))) (by simp only [wS_s, wS_t, wS_a, ne_eq, Nat.reduceEqDiff, not_false_eq_true, wS_wS, wS_p, wS_pp, Nat.reduceLT, id_eq]) ?_
        have hA : ahF ((w 25 0), (w 26 0), (w 274 0 0), (w 277 0 0)) st = _ := ahF_out (by dsimp only; rw [show (w 274 0 0) = i by grind]; exact g3)
        exact v_vret C dX2_addHotSet_97 (congr (congrArg Prod.mk (wS_eq (wS_eq (wS_eq (wS_eq rfl (by clear C ih_2; rw [hA])) (by clear C ih_2; rw [hA])) (fu_eq (by clear C ih_2; rw [hA]))) (fu_eq (by clear C ih_2; rw [hA])))) rfl)
      · refine v_iload_n C 0 dX2_addHotSet_10 rfl ?_
        refine v_bipush (v := 113) C dX2_addHotSet_11 (by decide) ?_
        refine v_ic_ge C 58 dX2_addHotSet_13 (by decide) (fun c_13 => absurd c_13 (by clear C ih_2; grind)) (fun c_13 => ?_)
        refine v_aload_n C 1 dX2_addHotSet_16 rfl ?_
        refine v_gR C 2 0 12 25 0 (C_m C (u_2 0 (by decide))) k_2 (by decide) x_422 (fun _ _ _ => rfl) dX2_addHotSet_17 ?_
        refine v_iload_n C 0 dX2_addHotSet_20 rfl ?_
        refine v_iald C 25 0 (C_m C (u_25 0 (by decide))) ⟨by decide, rfl, rfl⟩ (v_in (N := 113) (by decide) (by clear C ih_2; grind) (by clear C ih_2; grind)) dX2_addHotSet_21 ?_
        refine v_iload_n C 2 dX2_addHotSet_22 rfl ?_
        refine v_ic_ne C 52 dX2_addHotSet_23 (by decide) (fun c_23 => ?_) (fun c_23 => ?_)
        · refine v_iinc (v := i + 1) (lv2 := [(2, .int (i + 1)), (0, .ref (E.ad 2 0)), (1, .int st)]) C 0 dX2_addHotSet_52 rfl rfl (by decide) rfl ?_
          refine v_goto C 2 dX2_addHotSet_55 (by decide) ?_
          exact ih_2 (i + 1) (by clear C ih_2; exact Nat.lt_of_lt_of_le (m_up (by grind) (by grind)) (Nat.le_of_lt_succ hm_)) (by clear C ih_2; exact ⟨by grind, by grind, by rw [cl_succ (by grind) (by grind)]; exact fdR_go g3 (by assumption)⟩)
        · refine v_aload_n C 1 dX2_addHotSet_26 rfl ?_
          refine v_dup C dX2_addHotSet_27 rfl ?_
          refine v_gI C 2 0 17 277 (w 277 0 0) (C_m C (u_2 0 (by decide))) k_2 (by decide) rfl rfl x_429 rfl dX2_addHotSet_28 ?_
          refine v_aload_n C 1 dX2_addHotSet_31 rfl ?_
          refine v_gR C 2 0 13 26 0 (C_m C (u_2 0 (by decide))) k_2 (by decide) x_423 (fun _ _ _ => rfl) dX2_addHotSet_32 ?_
          refine v_iload_n C 0 dX2_addHotSet_35 rfl ?_
          refine v_iald C 26 0 (C_m C (u_26 0 (by decide))) ⟨by decide, rfl, rfl⟩ (v_in (N := 113) (by decide) (by clear C ih_2; grind) (by clear C ih_2; grind)) dX2_addHotSet_36 ?_
          refine v_iadd C dX2_addHotSet_37 ?_
          refine v_pI C 2 0 17 277 (C_m C (u_2 0 (by decide))) k_2 ty_2 (by decide) rfl ⟨rfl, rfl⟩ x_429 rfl rfl dX2_addHotSet_38 ?_
          refine v_aload_n C 1 dX2_addHotSet_41 rfl ?_
          refine v_gR C 2 0 13 26 0 (C_m C (u_2 0 (by decide))) k_2 (by decide) x_423 (fun _ _ _ => rfl) dX2_addHotSet_42 ?_
          refine v_iload_n C 0 dX2_addHotSet_45 rfl ?_
          refine v_dup2 C dX2_addHotSet_46 rfl rfl ?_
          refine v_iald C 26 0 (C_m C (u_26 0 (by decide))) ⟨by decide, rfl, rfl⟩ (v_in (N := 113) (by decide) (by clear C ih_2; grind) (by clear C ih_2; grind)) dX2_addHotSet_47 ?_
          refine v_i (y := ((w 26 0) i.toNatClampNeg)) (by simp only [wS_s, wS_t, wS_a, ne_eq, Nat.reduceEqDiff, not_false_eq_true]) ?_
          refine v_iconst (v := 1) C dX2_addHotSet_48 (by decide) ?_
          refine v_iadd C dX2_addHotSet_49 ?_
          refine v_iast C 26 0 (C_m C (u_26 0 (by decide))) ⟨by decide, rfl, rfl⟩ (v_in (N := 113) (by decide) (by clear C ih_2; grind) (by clear C ih_2; grind)) dX2_addHotSet_50 ?_
          refine v_w (wS_id _ 25 0).symm ?_
          refine v_tS C 274 0 (by decide) ?_
          refine v_w (w2 := (wS (wS (wS (wS w 25 0 (w 25 0)) 26 0 (upd (w 26 0) i.toNatClampNeg (((w 26 0) i.toNatClampNeg) + 1))) 274 0 (fun _ => (w 274 0 0))) 277 0 (fun _ => ((w 277 0 0) + ((w 26 0) i.toNatClampNeg))))) (by simp only [wS_s, wS_t, wS_a, ne_eq, Nat.reduceEqDiff, not_false_eq_true, wS_wS, wS_p, wS_pp, Nat.reduceLT, id_eq]) ?_
          have hq := (cl_lt g1 h1).mpr (show i < (w 274 0 0) by grind)
          have hA : ahF ((w 25 0), (w 26 0), (w 274 0 0), (w 277 0 0)) st = _ := ahF_in (fdR_fd g3 c_23 hq) hq
          exact v_vret C dX2_addHotSet_51 (congr (congrArg Prod.mk (wS_eq (wS_eq (wS_eq (wS_eq rfl (by clear C ih_2; rw [hA])) (by clear C ih_2; rw [hA])) (fu_eq (by clear C ih_2; rw [hA]))) (fu_eq (by clear C ih_2; rw [hA])))) rfl)
  exact hL2 _ 0 (Nat.lt_succ_self _) (by clear C hL2; exact ⟨by decide, h1, rfl⟩)
abbrev P_X2_leastWalk (w : Wi) (z : Wj) : Int32 → WW → Prop := fun r_ u_ => r_ = ((lwR (paF (w 25 0) ((w 274 0 0)).toNatClampNeg) (usR (w 25 0) ((w 274 0 0)).toNatClampNeg) (usR (w 25 0) ((w 274 0 0)).toNatClampNeg).toNatClampNeg 0 (usR (w 25 0) ((w 274 0 0)).toNatClampNeg))) ∧ u_ = (w, z)
set_option maxHeartbeats 4000000 in
set_option maxRecDepth 100000 in
theorem c_X2_leastWalk (E : En) (hE : q_ok E) (w : Wi) (z : Wj) (h1 : 0 ≤ (w 274 0 0)) (h2 : (w 274 0 0) ≤ 113) : CtI M_X2_leastWalk E [.ref (E.ad 2 0)] w z (P_X2_leastWalk w z) := by
  refine ctI_of (lv := [(0, .ref (E.ad 2 0))]) hE m_X2_leastWalk (Nat.le_of_ble_eq_true rfl) rfl ?_
  intro K A C0
  have C : Cx K E A cX2_leastWalk 5 RX2 (some .int) { frames := 1, cells := 0, slots := 0, locals := 23 } := C0
  clear C0
  refine v_aload_n C 0 dX2_leastWalk_0 rfl ?_
  refine v_vI C 2 0 [] 0 (c_X2_usefulCars E hE _ _    (by clear C; first | assumption | grind) (by clear C; first | assumption | grind)) m_X2_usefulCars x_1069 x_1071 x_29 p_X2_usefulCars rfl ⟨Nat.le_of_ble_eq_true rfl, Nat.le_of_ble_eq_true rfl⟩ (C_m C (u_2 0 (by decide))) k_2 rfl (Nat.le_of_ble_eq_true rfl) dX2_leastWalk_1 (fun r1 u1 v1 hp1 => ?_)
  obtain ⟨hr1, hu1⟩ := hp1
  subst hr1
  cases hu1
  have hL4 : ∀ (us : Int32), (us = usR (w 25 0) (w 274 0 0).toNatClampNeg) → V K E A 5 (QI K E A (P_X2_leastWalk w z)) 4 [(0, .ref (E.ad 2 0))] [.int us] w z := by
    intro us hinv
    have eu := hinv
    refine v_istore_n (lv2 := [(1, .int us), (0, .ref (E.ad 2 0))]) C dX2_leastWalk_4 rfl (by decide) rfl ?_
    refine v_iload_n C 0 dX2_leastWalk_5 rfl ?_
    refine v_istore_n (lv2 := [(2, .int us), (1, .int us), (0, .ref (E.ad 2 0))]) C dX2_leastWalk_6 rfl (by decide) rfl ?_
    refine v_iconst (v := 0) C dX2_leastWalk_7 (by decide) ?_
    refine v_istore_n (lv2 := [(3, .int 0), (2, .int us), (1, .int us), (0, .ref (E.ad 2 0))]) C dX2_leastWalk_8 rfl (by decide) rfl ?_
    have hL9 : ∀ (n_ : Nat) (be : Int32) (s : Int32), (us - s).toNatClampNeg < n_ → (0 ≤ s ∧ (s ≤ us ∨ s = 0) ∧ lwR (paF (w 25 0) (w 274 0 0).toNatClampNeg) us (us - s).toNatClampNeg s be = lwR (paF (w 25 0) (w 274 0 0).toNatClampNeg) us us.toNatClampNeg 0 us) → V K E A 5 (QI K E A (P_X2_leastWalk w z)) 9 [(3, .int s), (2, .int be), (1, .int us), (0, .ref (E.ad 2 0))] [] w z := by
      intro n_
      induction n_ with
      | zero => intro be s hm_; exact absurd hm_ (Nat.not_lt_zero _)
      | succ n_ ih_9 =>
        intro be s hm_ hinv
        obtain ⟨g1, g2, g3⟩ := hinv
        refine v_iload_n C 0 dX2_leastWalk_9 rfl ?_
        refine v_iload_n C 2 dX2_leastWalk_10 rfl ?_
        refine v_ic_ge C 61 dX2_leastWalk_11 (by decide) (fun c_11 => ?_) (fun c_11 => ?_)
        · refine v_iload_n C 1 dX2_leastWalk_61 rfl ?_
          exact v_iret C dX2_leastWalk_62 ⟨(by clear C ih_9; rw [← eu, ← g3, show (us - s).toNatClampNeg = 0 by (clear g3; rcases g2 with q | q; (rw [show us - s = 0 by grind]; rfl); (subst q; rw [show us - 0 = us by grind]; exact clz (by grind)))]; rfl), (congr (congrArg Prod.mk rfl) rfl)⟩
        · have hL55 : ∀ (b2 : Int32), (b2 = (if bcF s < bcF be ∧ s &&& (us ^^^ (-1)) = 0 ∧ paF (w 25 0) (w 274 0 0).toNatClampNeg s ≠ 0 then s else be)) → V K E A 5 (QI K E A (P_X2_leastWalk w z)) 55 [(3, .int s), (2, .int b2), (1, .int us), (0, .ref (E.ad 2 0))] [] w z := by
            intro b2 hinv
            have eb := hinv
            refine v_iinc (v := s + 1) (lv2 := [(3, .int (s + 1)), (2, .int b2), (1, .int us), (0, .ref (E.ad 2 0))]) C 0 dX2_leastWalk_55 rfl rfl (by decide) rfl ?_
            refine v_goto C 9 dX2_leastWalk_58 (by decide) ?_
            exact ih_9 b2 (s + 1) (by clear C ih_9; exact Nat.lt_of_lt_of_le (m_up g1 (by clear g3; grind)) (Nat.le_of_lt_succ hm_)) (by clear C ih_9; refine ⟨by clear g3; grind, by clear g3; grind, ?_⟩; rw [← g3, m_dnn g1 (by clear g3; grind)]; simp only [lwR]; rw [eb])
          refine v_iload_n C 0 dX2_leastWalk_14 rfl ?_
          have hL30 : ∀ (fw : Int32), (fw = (if bcF s < bcF be then 1 else 0)) → V K E A 5 (QI K E A (P_X2_leastWalk w z)) 30 [(3, .int s), (2, .int be), (1, .int us), (0, .ref (E.ad 2 0))] [.int fw] w z := by
            intro fw hinv
            have ef := hinv
            refine v_istore (lv2 := [(4, .int fw), (3, .int s), (2, .int be), (1, .int us), (0, .ref (E.ad 2 0))]) C dX2_leastWalk_30 (by decide) rfl ?_
            refine v_iload C 0 dX2_leastWalk_32 rfl ?_
            refine v_if_eq C 55 dX2_leastWalk_34 (by decide) (fun c_34 => ?_) (fun c_34 => ?_)
            · refine v_l [1, 2, 3, 4] rfl ?_
              exact hL55 be (by clear C ih_9 hL55; clear g3; grind)
            · refine v_iload_n C 1 dX2_leastWalk_37 rfl ?_
              refine v_iload_n C 3 dX2_leastWalk_38 rfl ?_
              refine v_iconst (v := (-1)) C dX2_leastWalk_39 (by decide) ?_
              refine v_ixor C dX2_leastWalk_40 ?_
              refine v_iand C dX2_leastWalk_41 ?_
              refine v_if_ne C 55 dX2_leastWalk_42 (by decide) (fun c_42 => ?_) (fun c_42 => ?_)
              · refine v_l [1, 2, 3, 4] rfl ?_
                exact hL55 be (by clear C ih_9 hL55; clear g3; grind)
              · refine v_aload_n C 4 dX2_leastWalk_45 rfl ?_
                refine v_iload_n C 1 dX2_leastWalk_46 rfl ?_
                refine v_vI C 2 0 [.int s] 1 (c_X2_partsAll E hE _ _  s  (by clear C ih_9 hL55; first | assumption | grind) (by clear C ih_9 hL55; first | assumption | grind)) m_X2_partsAll x_1074 x_1076 x_30 p_X2_partsAll rfl ⟨Nat.le_of_ble_eq_true rfl, Nat.le_of_ble_eq_true rfl⟩ (C_m C (u_2 0 (by decide))) k_2 rfl (Nat.le_of_ble_eq_true rfl) dX2_leastWalk_47 (fun r2 u2 v2 hp2 => ?_)
                obtain ⟨hr2, hu2⟩ := hp2
                subst hr2
                cases hu2
                refine v_if_eq C 55 dX2_leastWalk_50 (by decide) (fun c_50 => ?_) (fun c_50 => ?_)
                · refine v_l [1, 2, 3, 4] rfl ?_
                  exact hL55 be (by clear C ih_9 hL55; clear g3; grind)
                · refine v_iload_n C 1 dX2_leastWalk_53 rfl ?_
                  refine v_istore_n (lv2 := [(2, .int s), (4, .int fw), (3, .int s), (1, .int us), (0, .ref (E.ad 2 0))]) C dX2_leastWalk_54 rfl (by decide) rfl ?_
                  refine v_l [2, 0, 3, 4] rfl ?_
                  exact hL55 s (by clear C ih_9 hL55; clear g3; grind)
          refine v_sI C [.int s] 1 (c_J6_bitCount_0f7a4 E hE _ _  s  ) m_J6_bitCount_0f7a4 x_1073 x_989 p_J6_bitCount_0f7a4 rfl ⟨Nat.le_of_ble_eq_true rfl, Nat.le_of_ble_eq_true rfl⟩ rfl (Nat.le_of_ble_eq_true rfl) dX2_leastWalk_15 (fun r3 u3 v3 hp3 => ?_)
          obtain ⟨hr3, hu3⟩ := hp3
          subst hr3
          cases hu3
          refine v_iload_n C 1 dX2_leastWalk_18 rfl ?_
          refine v_sI C [.int be] 1 (c_J6_bitCount_0f7a4 E hE _ _  be  ) m_J6_bitCount_0f7a4 x_1073 x_989 p_J6_bitCount_0f7a4 rfl ⟨Nat.le_of_ble_eq_true rfl, Nat.le_of_ble_eq_true rfl⟩ rfl (Nat.le_of_ble_eq_true rfl) dX2_leastWalk_19 (fun r4 u4 v4 hp4 => ?_)
          obtain ⟨hr4, hu4⟩ := hp4
          subst hr4
          cases hu4
          refine v_ic_ge C 29 dX2_leastWalk_22 (by decide) (fun c_22 => ?_) (fun c_22 => ?_)
          · refine v_iconst (v := 0) C dX2_leastWalk_29 (by decide) ?_
            exact hL30 0 (by clear C ih_9 hL55 hL30; clear g3; first | (rw [if_neg (by grind)]) | (rw [if_pos (by grind)]))
          · refine v_iconst (v := 1) C dX2_leastWalk_25 (by decide) ?_
            refine v_goto C 30 dX2_leastWalk_26 (by decide) ?_
            exact hL30 1 (by clear C ih_9 hL55 hL30; clear g3; first | (rw [if_neg (by grind)]) | (rw [if_pos (by grind)]))
    exact hL9 _ us 0 (Nat.lt_succ_self _) (by clear C hL9; exact ⟨by decide, Or.inr rfl, by rw [show us - 0 = us by grind]⟩)
  exact hL4 (usR (w 25 0) ((w 274 0 0)).toNatClampNeg) (by clear C hL4; rfl)
abbrev P_X2_agrees (w : Wi) (z : Wj) (ti : Int32) (off : Int32) : Int32 → WW → Prop := fun r_ u_ => r_ = (agF (w 21 0) (w 22 0) (w 23 0) ((w 267 0 0)).toNatClampNeg ti off ((w 13 3) 0) ((w 13 3) ((w 500 3 0)).toNatClampNeg)) ∧ u_ = (w, z)
set_option maxHeartbeats 4000000 in
set_option maxRecDepth 100000 in
theorem c_X2_agrees (E : En) (hE : q_ok E) (w : Wi) (z : Wj) (ti : Int32) (off : Int32) (h1 : 0 ≤ (w 500 3 0)) (h2 : (w 500 3 0) ≤ 16) (h3 : 0 ≤ (w 267 0 0)) (h4 : (w 267 0 0) ≤ 8) : CtI M_X2_agrees E [.ref (E.ad 2 0), .int ti, .int off] w z (P_X2_agrees w z ti off) := by
  refine ctI_of (lv := [(0, .ref (E.ad 2 0)), (1, .int ti), (2, .int off)]) hE m_X2_agrees (Nat.le_of_ble_eq_true rfl) rfl ?_
  intro K A C0
  have C : Cx K E A cX2_agrees 6 RX2 (some .boolean) { frames := 1, cells := 0, slots := 0, locals := 22 } := C0
  clear C0
  refine v_aload_n C 0 dX2_agrees_0 rfl ?_
  refine v_gR C 2 0 3 0 3 (C_m C (u_2 0 (by decide))) k_2 (by decide) x_413 (fun _ _ _ => rfl) dX2_agrees_1 ?_
  refine v_iconst (v := 0) C dX2_agrees_4 (by decide) ?_
  refine v_iconst (v := 0) C dX2_agrees_5 (by decide) ?_
  refine v_vI C 0 3 [.int 0, .int 0] 2 (c_X0_measure E hE _ _ 3 (by decide) 0 0  ) m_X0_measure x_1033 x_827 x_828 p_X0_measure rfl ⟨Nat.le_of_ble_eq_true rfl, Nat.le_of_ble_eq_true rfl⟩ (C_m C (u_0 3 (by decide))) k_0 rfl (Nat.le_of_ble_eq_true rfl) dX2_agrees_6 (fun r1 u1 v1 hp1 => ?_)
  obtain ⟨hr1, hu1⟩ := hp1
  subst hr1
  cases hu1
  refine v_istore_n (lv2 := [(3, .int (if 0 ≤ (0 : Int32) ∧ (0 : Int32) < 17 then (if (0 : Int32) = 0 then (w 13 3) ((0 : Int32)).toNatClampNeg else if (0 : Int32) = 1 then (w 15 3) ((0 : Int32)).toNatClampNeg else (w 16 3) ((0 : Int32)).toNatClampNeg) else (-1))), (0, .ref (E.ad 2 0)), (1, .int ti), (2, .int off)]) C dX2_agrees_9 rfl (by decide) rfl ?_
  refine v_aload_n C 1 dX2_agrees_10 rfl ?_
  refine v_gR C 2 0 3 0 3 (C_m C (u_2 0 (by decide))) k_2 (by decide) x_413 (fun _ _ _ => rfl) dX2_agrees_11 ?_
  refine v_aload_n C 1 dX2_agrees_14 rfl ?_
  refine v_gR C 2 0 2 5 3 (C_m C (u_2 0 (by decide))) k_2 (by decide) x_412 (fun _ _ _ => rfl) dX2_agrees_15 ?_
  refine v_gI C 5 3 0 500 (w 500 3 0) (C_m C (u_5 3 (by decide))) k_5 (by decide) rfl rfl x_170 rfl dX2_agrees_18 ?_
  refine v_iconst (v := 0) C dX2_agrees_21 (by decide) ?_
  refine v_vI C 0 3 [.int (w 500 3 0), .int 0] 2 (c_X0_measure E hE _ _ 3 (by decide) (w 500 3 0) 0  ) m_X0_measure x_1033 x_827 x_828 p_X0_measure rfl ⟨Nat.le_of_ble_eq_true rfl, Nat.le_of_ble_eq_true rfl⟩ (C_m C (u_0 3 (by decide))) k_0 rfl (Nat.le_of_ble_eq_true rfl) dX2_agrees_22 (fun r2 u2 v2 hp2 => ?_)
  obtain ⟨hr2, hu2⟩ := hp2
  subst hr2
  cases hu2
  refine v_istore (lv2 := [(4, .int (if 0 ≤ (w 500 3 0) ∧ (w 500 3 0) < 17 then (if (0 : Int32) = 0 then (w 13 3) ((w 500 3 0)).toNatClampNeg else if (0 : Int32) = 1 then (w 15 3) ((w 500 3 0)).toNatClampNeg else (w 16 3) ((w 500 3 0)).toNatClampNeg) else (-1))), (3, .int (if 0 ≤ (0 : Int32) ∧ (0 : Int32) < 17 then (if (0 : Int32) = 0 then (w 13 3) ((0 : Int32)).toNatClampNeg else if (0 : Int32) = 1 then (w 15 3) ((0 : Int32)).toNatClampNeg else (w 16 3) ((0 : Int32)).toNatClampNeg) else (-1))), (0, .ref (E.ad 2 0)), (1, .int ti), (2, .int off)]) C dX2_agrees_25 (by decide) rfl ?_
  have hL27 : ∀ (fr : Int32) (bk : Int32), (fr = (w 13 3) 0 ∧ bk = (w 13 3) (w 500 3 0).toNatClampNeg) → V K E A 6 (QI K E A (P_X2_agrees w z ti off)) 27 [(4, .int bk), (3, .int fr), (0, .ref (E.ad 2 0)), (1, .int ti), (2, .int off)] [] w z := by
    intro fr bk hinv
    obtain ⟨ef, ek⟩ := hinv
    refine v_iconst (v := 0) C dX2_agrees_27 (by decide) ?_
    refine v_istore (lv2 := [(5, .int 0), (4, .int bk), (3, .int fr), (0, .ref (E.ad 2 0)), (1, .int ti), (2, .int off)]) C dX2_agrees_28 (by decide) rfl ?_
    have hL30 : ∀ (n_ : Nat) (i : Int32), (200 - i).toNatClampNeg < n_ → (0 ≤ i ∧ i ≤ (w 267 0 0) ∧ ∀ k, k < i.toNatClampNeg → (w 21 0) k = ti → ab ((w 22 0) k - fr) ≤ off ∧ ab ((w 23 0) k - bk) ≤ off) → V K E A 6 (QI K E A (P_X2_agrees w z ti off)) 30 [(5, .int i), (4, .int bk), (3, .int fr), (0, .ref (E.ad 2 0)), (1, .int ti), (2, .int off)] [] w z := by
      intro n_
      induction n_ with
      | zero => intro i hm_; exact absurd hm_ (Nat.not_lt_zero _)
      | succ n_ ih_30 =>
        intro i hm_ hinv
        obtain ⟨g1, g2, g3⟩ := hinv
        refine v_iload C 0 dX2_agrees_30 rfl ?_
        refine v_aload_n C 3 dX2_agrees_32 rfl ?_
        refine v_gI C 2 0 7 267 (w 267 0 0) (C_m C (u_2 0 (by decide))) k_2 (by decide) rfl rfl x_417 rfl dX2_agrees_33 ?_
        refine v_ic_ge C 98 dX2_agrees_36 (by decide) (fun c_36 => ?_) (fun c_36 => ?_)
        · refine v_iconst (v := 1) C dX2_agrees_98 (by decide) ?_
          exact v_zret C dX2_agrees_99 (by decide) ⟨(by clear C ih_30; rw [← ef, ← ek]; simp only [agF]; rw [if_pos]; rw [show (w 267 0 0) = i by clear g3; grind]; exact g3), (congr (congrArg Prod.mk rfl) rfl)⟩
        · refine v_iload C 0 dX2_agrees_39 rfl ?_
          refine v_bipush (v := 8) C dX2_agrees_41 (by decide) ?_
          refine v_ic_ge C 98 dX2_agrees_43 (by decide) (fun c_43 => absurd c_43 (by clear C ih_30; clear g3; grind)) (fun c_43 => ?_)
          refine v_aload_n C 3 dX2_agrees_46 rfl ?_
          refine v_gR C 2 0 4 21 0 (C_m C (u_2 0 (by decide))) k_2 (by decide) x_414 (fun _ _ _ => rfl) dX2_agrees_47 ?_
          refine v_iload C 0 dX2_agrees_50 rfl ?_
          refine v_iald C 21 0 (C_m C (u_21 0 (by decide))) ⟨by decide, rfl, rfl⟩ (by exact v_in (N := 8) (by decide) (by clear g3; grind) (by clear g3; grind)) dX2_agrees_52 ?_
          refine v_iload_n C 4 dX2_agrees_53 rfl ?_
          refine v_ic_ne C 92 dX2_agrees_54 (by decide) (fun c_54 => ?_) (fun c_54 => ?_)
          · refine v_iinc (v := i + 1) (lv2 := [(5, .int (i + 1)), (4, .int bk), (3, .int fr), (0, .ref (E.ad 2 0)), (1, .int ti), (2, .int off)]) C 0 dX2_agrees_92 rfl rfl (by decide) rfl ?_
            refine v_goto C 30 dX2_agrees_95 (by decide) ?_
            exact ih_30 (i + 1) (by clear C ih_30; exact Nat.lt_of_lt_of_le (m_up (by clear g3; grind) (by clear g3; grind)) (Nat.le_of_lt_succ hm_)) (by clear C ih_30; refine ⟨by clear g3; grind, by clear g3; grind, fun k h e => ?_⟩; rw [cl_succ g1 (by clear g3; grind)] at h; by_cases q : k = i.toNatClampNeg; (subst q; clear g3; simp only [ab]; first | contradiction | exact ⟨by grind, by grind⟩); exact g3 k (by omega) e)
          · refine v_aload_n C 3 dX2_agrees_57 rfl ?_
            refine v_gR C 2 0 5 22 0 (C_m C (u_2 0 (by decide))) k_2 (by decide) x_415 (fun _ _ _ => rfl) dX2_agrees_58 ?_
            refine v_iload C 0 dX2_agrees_61 rfl ?_
            refine v_iald C 22 0 (C_m C (u_22 0 (by decide))) ⟨by decide, rfl, rfl⟩ (by exact v_in (N := 8) (by decide) (by clear g3; grind) (by clear g3; grind)) dX2_agrees_63 ?_
            refine v_iload_n C 2 dX2_agrees_64 rfl ?_
            refine v_isub C dX2_agrees_65 ?_
            refine v_mabs C x_1034 x_1035 x_85 x_1036 ⟨by decide, Nat.le_of_ble_eq_true rfl⟩ dX2_agrees_66 ?_
            refine v_iload_n C 5 dX2_agrees_69 rfl ?_
            refine v_ic_gt C 90 dX2_agrees_70 (by decide) (fun c_70 => ?_) (fun c_70 => ?_)
            · refine v_iconst (v := 0) C dX2_agrees_90 (by decide) ?_
              exact v_zret C dX2_agrees_91 (by decide) ⟨(by clear C ih_30; rw [← ef, ← ek]; simp only [agF]; rw [if_neg]; intro q; have q2 := q _ ((cl_lt g1 h3).mpr (by clear g3 q; grind)) (by assumption); simp only [ab] at q2; clear g3 q; grind), (congr (congrArg Prod.mk rfl) rfl)⟩
            · refine v_aload_n C 3 dX2_agrees_73 rfl ?_
              refine v_gR C 2 0 6 23 0 (C_m C (u_2 0 (by decide))) k_2 (by decide) x_416 (fun _ _ _ => rfl) dX2_agrees_74 ?_
              refine v_iload C 0 dX2_agrees_77 rfl ?_
              refine v_iald C 23 0 (C_m C (u_23 0 (by decide))) ⟨by decide, rfl, rfl⟩ (by exact v_in (N := 8) (by decide) (by clear g3; grind) (by clear g3; grind)) dX2_agrees_79 ?_
              refine v_iload C 1 dX2_agrees_80 rfl ?_
              refine v_isub C dX2_agrees_82 ?_
              refine v_mabs C x_1034 x_1035 x_85 x_1036 ⟨by decide, Nat.le_of_ble_eq_true rfl⟩ dX2_agrees_83 ?_
              refine v_iload_n C 5 dX2_agrees_86 rfl ?_
              refine v_ic_le C 92 dX2_agrees_87 (by decide) (fun c_87 => ?_) (fun c_87 => ?_)
              · refine v_iinc (v := i + 1) (lv2 := [(5, .int (i + 1)), (4, .int bk), (3, .int fr), (0, .ref (E.ad 2 0)), (1, .int ti), (2, .int off)]) C 0 dX2_agrees_92 rfl rfl (by decide) rfl ?_
                refine v_goto C 30 dX2_agrees_95 (by decide) ?_
                exact ih_30 (i + 1) (by clear C ih_30; exact Nat.lt_of_lt_of_le (m_up (by clear g3; grind) (by clear g3; grind)) (Nat.le_of_lt_succ hm_)) (by clear C ih_30; refine ⟨by clear g3; grind, by clear g3; grind, fun k h e => ?_⟩; rw [cl_succ g1 (by clear g3; grind)] at h; by_cases q : k = i.toNatClampNeg; (subst q; clear g3; simp only [ab]; first | contradiction | exact ⟨by grind, by grind⟩); exact g3 k (by omega) e)
              · refine v_iconst (v := 0) C dX2_agrees_90 (by decide) ?_
                exact v_zret C dX2_agrees_91 (by decide) ⟨(by clear C ih_30; rw [← ef, ← ek]; simp only [agF]; rw [if_neg]; intro q; have q2 := q _ ((cl_lt g1 h3).mpr (by clear g3 q; grind)) (by assumption); simp only [ab] at q2; clear g3 q; grind), (congr (congrArg Prod.mk rfl) rfl)⟩
    exact hL30 _ 0 (Nat.lt_succ_self _) (by clear C hL30; exact ⟨by decide, h3, fun i2 h => absurd h (Nat.not_lt_zero _)⟩)
  exact hL27 (if 0 ≤ (0 : Int32) ∧ (0 : Int32) < 17 then (if (0 : Int32) = 0 then (w 13 3) ((0 : Int32)).toNatClampNeg else if (0 : Int32) = 1 then (w 15 3) ((0 : Int32)).toNatClampNeg else (w 16 3) ((0 : Int32)).toNatClampNeg) else (-1)) (if 0 ≤ (w 500 3 0) ∧ (w 500 3 0) < 17 then (if (0 : Int32) = 0 then (w 13 3) ((w 500 3 0)).toNatClampNeg else if (0 : Int32) = 1 then (w 15 3) ((w 500 3 0)).toNatClampNeg else (w 16 3) ((w 500 3 0)).toNatClampNeg) else (-1)) (by clear C hL27; exact ⟨by rfl, by rw [if_pos (by grind), if_pos rfl]⟩)
