abbrev P_X4_clear (w : Wi) (z : Wj) (v : Nat) : WW → Prop := fun u_ => u_ = ((wS (wS w 420 v (fun _ => 0)) 421 v (fun _ => 0)), z)
set_option maxHeartbeats 4000000 in
set_option maxRecDepth 100000 in
theorem c_X4_clear (E : En) (hE : q_ok E) (w : Wi) (z : Wj) (v : Nat) (hi_v : v < 2) : CtV M_X4_clear E [.ref (E.ad 4 v)] w z (P_X4_clear w z v) := by
  refine ctV_of (lv := [(0, .ref (E.ad 4 v))]) hE m_X4_clear (Nat.le_of_ble_eq_true rfl) rfl ?_
  intro K A C0
  have C : Cx K E A cX4_clear 1 RX4 none { frames := 0, cells := 0, slots := 0, locals := 0 } := C0
  clear C0
  refine v_aload_n C 0 dX4_clear_0 rfl ?_
  refine v_iconst (v := 0) C dX4_clear_1 (by decide) ?_
  refine v_pI C 4 v 0 420 (C_m C (u_4 v hi_v)) k_4 ty_4 (by decide) rfl ⟨rfl, rfl⟩ x_243 rfl rfl dX4_clear_2 ?_
  refine v_aload_n C 0 dX4_clear_5 rfl ?_
  refine v_iconst (v := 0) C dX4_clear_6 (by decide) ?_
  refine v_pI C 4 v 1 421 (C_m C (u_4 v hi_v)) k_4 ty_4 (by decide) rfl ⟨rfl, rfl⟩ x_246 (by decide) (by decide) dX4_clear_7 ?_
  exact v_vret C dX4_clear_10 (congr (congrArg Prod.mk rfl) rfl)
abbrev P_X4_allTicks (w : Wi) (z : Wj) (v : Nat) : Int32 → WW → Prop := fun r_ u_ => r_ = ((if 1 ≤ (w 420 v 0) ∧ (w 420 v 0) ≤ 20 then (w 29 v) ((w 420 v 0) - 1).toNatClampNeg else 0)) ∧ u_ = (w, z)
set_option maxHeartbeats 4000000 in
set_option maxRecDepth 100000 in
theorem c_X4_allTicks (E : En) (hE : q_ok E) (w : Wi) (z : Wj) (v : Nat) (hi_v : v < 2) : CtI M_X4_allTicks E [.ref (E.ad 4 v)] w z (P_X4_allTicks w z v) := by
  refine ctI_of (lv := [(0, .ref (E.ad 4 v))]) hE m_X4_allTicks (Nat.le_of_ble_eq_true rfl) rfl ?_
  intro K A C0
  have C : Cx K E A cX4_allTicks 1 RX4 (some .int) { frames := 0, cells := 0, slots := 0, locals := 0 } := C0
  clear C0
  refine v_aload_n C 0 dX4_allTicks_0 rfl ?_
  refine v_gI C 4 v 0 420 (w 420 v 0) (C_m C (u_4 v hi_v)) k_4 (by decide) rfl rfl x_243 rfl dX4_allTicks_1 ?_
  refine v_iconst (v := 1) C dX4_allTicks_4 (by decide) ?_
  refine v_ic_lt C 31 dX4_allTicks_5 (by decide) (fun c_5 => ?_) (fun c_5 => ?_)
  · refine v_iconst (v := 0) C dX4_allTicks_31 (by decide) ?_
    exact v_iret C dX4_allTicks_32 ⟨(by clear C; grind), (congr (congrArg Prod.mk rfl) rfl)⟩
  · refine v_aload_n C 0 dX4_allTicks_8 rfl ?_
    refine v_gI C 4 v 0 420 (w 420 v 0) (C_m C (u_4 v hi_v)) k_4 (by decide) rfl rfl x_243 rfl dX4_allTicks_9 ?_
    refine v_bipush (v := 20) C dX4_allTicks_12 (by decide) ?_
    refine v_ic_gt C 31 dX4_allTicks_14 (by decide) (fun c_14 => ?_) (fun c_14 => ?_)
    · refine v_iconst (v := 0) C dX4_allTicks_31 (by decide) ?_
      exact v_iret C dX4_allTicks_32 ⟨(by clear C; grind), (congr (congrArg Prod.mk rfl) rfl)⟩
    · refine v_aload_n C 0 dX4_allTicks_17 rfl ?_
      refine v_gR C 4 v 4 29 v (C_m C (u_4 v hi_v)) k_4 (by decide) x_251 (fun _ _ _ => rfl) dX4_allTicks_18 ?_
      refine v_aload_n C 0 dX4_allTicks_21 rfl ?_
      refine v_gI C 4 v 0 420 (w 420 v 0) (C_m C (u_4 v hi_v)) k_4 (by decide) rfl rfl x_243 rfl dX4_allTicks_22 ?_
      refine v_iconst (v := 1) C dX4_allTicks_25 (by decide) ?_
      refine v_isub C dX4_allTicks_26 ?_
      refine v_iald C 29 v (C_m C (u_29 v hi_v)) ⟨by decide, rfl, rfl⟩ (v_in (N := 20) (by decide) (by clear C; grind) (by clear C; grind)) dX4_allTicks_27 ?_
      refine v_goto C 32 dX4_allTicks_28 (by decide) ?_
      exact v_iret C dX4_allTicks_32 ⟨(by clear C; grind), (congr (congrArg Prod.mk rfl) rfl)⟩
abbrev P_X4_addStep (w : Wi) (z : Wj) (v : Nat) (act : Int32) (am : Int32) (ti : Int32) : WW → Prop := fun u_ => u_ = ((wS (wS (wS (wS w 27 v (upd (w 27 v) ((w 420 v 0)).toNatClampNeg act)) 28 v (upd (w 28 v) ((w 420 v 0)).toNatClampNeg am)) 29 v (upd (w 29 v) ((w 420 v 0)).toNatClampNeg ((if 1 ≤ (w 420 v 0) ∧ (w 420 v 0) ≤ 20 then (w 29 v) ((w 420 v 0) - 1).toNatClampNeg else 0) + ti))) 420 v (fun _ => (w 420 v 0) + 1)), z)
set_option maxHeartbeats 4000000 in
set_option maxRecDepth 100000 in
theorem c_X4_addStep (E : En) (hE : q_ok E) (w : Wi) (z : Wj) (v : Nat) (hi_v : v < 2) (act : Int32) (am : Int32) (ti : Int32) (h1 : 0 ≤ (w 420 v 0)) (h2 : (w 420 v 0) < 20) : CtV M_X4_addStep E [.ref (E.ad 4 v), .int act, .int am, .int ti] w z (P_X4_addStep w z v act am ti) := by
  refine ctV_of (lv := [(0, .ref (E.ad 4 v)), (1, .int act), (2, .int am), (3, .int ti)]) hE m_X4_addStep (Nat.le_of_ble_eq_true rfl) rfl ?_
  intro K A C0
  have C : Cx K E A cX4_addStep 5 RX4 none { frames := 1, cells := 0, slots := 0, locals := 20 } := C0
  clear C0
  refine v_aload_n C 0 dX4_addStep_0 rfl ?_
  refine v_gI C 4 v 0 420 (w 420 v 0) (C_m C (u_4 v hi_v)) k_4 (by decide) rfl rfl x_243 rfl dX4_addStep_1 ?_
  refine v_bipush (v := 20) C dX4_addStep_4 (by decide) ?_
  refine v_ic_lt C 10 dX4_addStep_6 (by decide) (fun c_6 => ?_) (fun c_6 => absurd c_6 (by clear C; grind))
  refine v_aload_n C 0 dX4_addStep_10 rfl ?_
  refine v_vI C 4 v [] 0 (c_X4_allTicks E hE _ _ v hi_v   ) m_X4_allTicks x_766 x_767 x_768 p_X4_allTicks rfl ⟨Nat.le_of_ble_eq_true rfl, Nat.le_of_ble_eq_true rfl⟩ (C_m C (u_4 v hi_v)) k_4 rfl (Nat.le_of_ble_eq_true rfl) dX4_addStep_11 (fun r1 u1 v1 hp1 => ?_)
  obtain ⟨hr1, hu1⟩ := hp1
  subst hr1
  cases hu1
  refine v_istore (lv2 := [(4, .int (if 1 ≤ (w 420 v 0) ∧ (w 420 v 0) ≤ 20 then (w 29 v) ((w 420 v 0) - 1).toNatClampNeg else 0)), (0, .ref (E.ad 4 v)), (1, .int act), (2, .int am), (3, .int ti)]) C dX4_addStep_14 (by decide) rfl ?_
  refine v_aload_n C 1 dX4_addStep_16 rfl ?_
  refine v_gR C 4 v 2 27 v (C_m C (u_4 v hi_v)) k_4 (by decide) x_249 (fun _ _ _ => rfl) dX4_addStep_17 ?_
  refine v_aload_n C 1 dX4_addStep_20 rfl ?_
  refine v_gI C 4 v 0 420 (w 420 v 0) (C_m C (u_4 v hi_v)) k_4 (by decide) rfl rfl x_243 rfl dX4_addStep_21 ?_
  refine v_iload_n C 2 dX4_addStep_24 rfl ?_
  refine v_iast C 27 v (C_m C (u_27 v hi_v)) ⟨by decide, rfl, rfl⟩ (v_in (N := 20) (by decide) (by clear C; grind) (by clear C; grind)) dX4_addStep_25 ?_
  refine v_aload_n C 1 dX4_addStep_26 rfl ?_
  refine v_gR C 4 v 3 28 v (C_m C (u_4 v hi_v)) k_4 (by decide) x_250 (fun _ _ _ => rfl) dX4_addStep_27 ?_
  refine v_aload_n C 1 dX4_addStep_30 rfl ?_
  refine v_gI C 4 v 0 420 (w 420 v 0) (C_m C (u_4 v hi_v)) k_4 (by decide) rfl rfl x_243 (by simp only [wS_s, wS_t, wS_a, ne_eq, Nat.reduceEqDiff, not_false_eq_true]) dX4_addStep_31 ?_
  refine v_iload_n C 3 dX4_addStep_34 rfl ?_
  refine v_iast C 28 v (C_m C (u_28 v hi_v)) ⟨by decide, rfl, rfl⟩ (v_in (N := 20) (by decide) (by clear C; grind) (by clear C; grind)) dX4_addStep_35 ?_
  refine v_aload_n C 1 dX4_addStep_36 rfl ?_
  refine v_gR C 4 v 4 29 v (C_m C (u_4 v hi_v)) k_4 (by decide) x_251 (fun _ _ _ => rfl) dX4_addStep_37 ?_
  refine v_aload_n C 1 dX4_addStep_40 rfl ?_
  refine v_gI C 4 v 0 420 (w 420 v 0) (C_m C (u_4 v hi_v)) k_4 (by decide) rfl rfl x_243 (by simp only [wS_s, wS_t, wS_a, ne_eq, Nat.reduceEqDiff, not_false_eq_true]) dX4_addStep_41 ?_
  refine v_iload C 0 dX4_addStep_44 rfl ?_
  refine v_iload_n C 4 dX4_addStep_46 rfl ?_
  refine v_iadd C dX4_addStep_47 ?_
  refine v_iast C 29 v (C_m C (u_29 v hi_v)) ⟨by decide, rfl, rfl⟩ (v_in (N := 20) (by decide) (by clear C; grind) (by clear C; grind)) dX4_addStep_48 ?_
  refine v_aload_n C 1 dX4_addStep_49 rfl ?_
  refine v_dup C dX4_addStep_50 rfl ?_
  refine v_gI C 4 v 0 420 (w 420 v 0) (C_m C (u_4 v hi_v)) k_4 (by decide) rfl rfl x_243 (by simp only [wS_s, wS_t, wS_a, ne_eq, Nat.reduceEqDiff, not_false_eq_true]) dX4_addStep_51 ?_
  refine v_iconst (v := 1) C dX4_addStep_54 (by decide) ?_
  refine v_iadd C dX4_addStep_55 ?_
  refine v_pI C 4 v 0 420 (C_m C (u_4 v hi_v)) k_4 ty_4 (by decide) rfl ⟨rfl, rfl⟩ x_243 rfl rfl dX4_addStep_56 ?_
  refine v_w (w2 := (wS (wS (wS (wS w 27 v (upd (w 27 v) (w 420 v 0).toNatClampNeg act)) 28 v (upd (w 28 v) (w 420 v 0).toNatClampNeg am)) 29 v (upd (w 29 v) (w 420 v 0).toNatClampNeg ((if 1 ≤ (w 420 v 0) ∧ (w 420 v 0) ≤ 20 then (w 29 v) ((w 420 v 0) - 1).toNatClampNeg else 0) + ti))) 420 v (fun _ => ((w 420 v 0) + 1)))) (by simp only [wS_s, wS_t, wS_a, ne_eq, Nat.reduceEqDiff, not_false_eq_true, wS_wS, wS_p, wS_pp, Nat.reduceLT, id_eq]) ?_
  exact v_vret C dX4_addStep_59 (congr (congrArg Prod.mk (wS_eq (wS_eq (wS_eq (wS_eq rfl (by clear C; grind)) (by clear C; grind)) (by clear C; grind)) rfl)) rfl)
abbrev P_X4_actOf (w : Wi) (z : Wj) (v : Nat) (sp : Int32) : Int32 → WW → Prop := fun r_ u_ => r_ = (stepF (w 420 v 0) (w 27 v) 1 sp) ∧ u_ = (w, z)
set_option maxHeartbeats 4000000 in
set_option maxRecDepth 100000 in
theorem c_X4_actOf (E : En) (hE : q_ok E) (w : Wi) (z : Wj) (v : Nat) (hi_v : v < 2) (sp : Int32) : CtI M_X4_actOf E [.ref (E.ad 4 v), .int sp] w z (P_X4_actOf w z v sp) := by
  refine ctI_of (lv := [(0, .ref (E.ad 4 v)), (1, .int sp)]) hE m_X4_actOf (Nat.le_of_ble_eq_true rfl) rfl ?_
  intro K A C0
  have C : Cx K E A cX4_actOf 2 RX4 (some .int) { frames := 0, cells := 0, slots := 0, locals := 0 } := C0
  clear C0
  refine v_iload_n C 1 dX4_actOf_0 rfl ?_
  refine v_if_lt C 27 dX4_actOf_1 (by decide) (fun c_1 => ?_) (fun c_1 => ?_)
  · refine v_iconst (v := 1) C dX4_actOf_27 (by decide) ?_
    exact v_iret C dX4_actOf_28 ⟨(by clear C; simp only [stepF]; grind), (congr (congrArg Prod.mk rfl) rfl)⟩
  · refine v_iload_n C 1 dX4_actOf_4 rfl ?_
    refine v_aload_n C 0 dX4_actOf_5 rfl ?_
    refine v_gI C 4 v 0 420 (w 420 v 0) (C_m C (u_4 v hi_v)) k_4 (by decide) rfl rfl x_243 rfl dX4_actOf_6 ?_
    refine v_ic_ge C 27 dX4_actOf_9 (by decide) (fun c_9 => ?_) (fun c_9 => ?_)
    · refine v_iconst (v := 1) C dX4_actOf_27 (by decide) ?_
      exact v_iret C dX4_actOf_28 ⟨(by clear C; simp only [stepF]; grind), (congr (congrArg Prod.mk rfl) rfl)⟩
    · refine v_iload_n C 1 dX4_actOf_12 rfl ?_
      refine v_bipush (v := 20) C dX4_actOf_13 (by decide) ?_
      refine v_ic_ge C 27 dX4_actOf_15 (by decide) (fun c_15 => ?_) (fun c_15 => ?_)
      · refine v_iconst (v := 1) C dX4_actOf_27 (by decide) ?_
        exact v_iret C dX4_actOf_28 ⟨(by clear C; simp only [stepF]; grind), (congr (congrArg Prod.mk rfl) rfl)⟩
      · refine v_aload_n C 0 dX4_actOf_18 rfl ?_
        refine v_gR C 4 v 2 27 v (C_m C (u_4 v hi_v)) k_4 (by decide) x_249 (fun _ _ _ => rfl) dX4_actOf_19 ?_
        refine v_iload_n C 1 dX4_actOf_22 rfl ?_
        refine v_iald C 27 v (C_m C (u_27 v hi_v)) ⟨by decide, rfl, rfl⟩ (v_in (N := 20) (by decide) (by clear C; grind) (by clear C; grind)) dX4_actOf_23 ?_
        refine v_goto C 28 dX4_actOf_24 (by decide) ?_
        exact v_iret C dX4_actOf_28 ⟨(by clear C; simp only [stepF]; grind), (congr (congrArg Prod.mk rfl) rfl)⟩
abbrev P_X4_amountOf (w : Wi) (z : Wj) (v : Nat) (sp : Int32) : Int32 → WW → Prop := fun r_ u_ => r_ = (stepF (w 420 v 0) (w 28 v) 0 sp) ∧ u_ = (w, z)
set_option maxHeartbeats 4000000 in
set_option maxRecDepth 100000 in
theorem c_X4_amountOf (E : En) (hE : q_ok E) (w : Wi) (z : Wj) (v : Nat) (hi_v : v < 2) (sp : Int32) : CtI M_X4_amountOf E [.ref (E.ad 4 v), .int sp] w z (P_X4_amountOf w z v sp) := by
  refine ctI_of (lv := [(0, .ref (E.ad 4 v)), (1, .int sp)]) hE m_X4_amountOf (Nat.le_of_ble_eq_true rfl) rfl ?_
  intro K A C0
  have C : Cx K E A cX4_amountOf 2 RX4 (some .int) { frames := 0, cells := 0, slots := 0, locals := 0 } := C0
  clear C0
  refine v_iload_n C 1 dX4_amountOf_0 rfl ?_
  refine v_if_lt C 27 dX4_amountOf_1 (by decide) (fun c_1 => ?_) (fun c_1 => ?_)
  · refine v_iconst (v := 0) C dX4_amountOf_27 (by decide) ?_
    exact v_iret C dX4_amountOf_28 ⟨(by clear C; simp only [stepF]; grind), (congr (congrArg Prod.mk rfl) rfl)⟩
  · refine v_iload_n C 1 dX4_amountOf_4 rfl ?_
    refine v_aload_n C 0 dX4_amountOf_5 rfl ?_
    refine v_gI C 4 v 0 420 (w 420 v 0) (C_m C (u_4 v hi_v)) k_4 (by decide) rfl rfl x_243 rfl dX4_amountOf_6 ?_
    refine v_ic_ge C 27 dX4_amountOf_9 (by decide) (fun c_9 => ?_) (fun c_9 => ?_)
    · refine v_iconst (v := 0) C dX4_amountOf_27 (by decide) ?_
      exact v_iret C dX4_amountOf_28 ⟨(by clear C; simp only [stepF]; grind), (congr (congrArg Prod.mk rfl) rfl)⟩
    · refine v_iload_n C 1 dX4_amountOf_12 rfl ?_
      refine v_bipush (v := 20) C dX4_amountOf_13 (by decide) ?_
      refine v_ic_ge C 27 dX4_amountOf_15 (by decide) (fun c_15 => ?_) (fun c_15 => ?_)
      · refine v_iconst (v := 0) C dX4_amountOf_27 (by decide) ?_
        exact v_iret C dX4_amountOf_28 ⟨(by clear C; simp only [stepF]; grind), (congr (congrArg Prod.mk rfl) rfl)⟩
      · refine v_aload_n C 0 dX4_amountOf_18 rfl ?_
        refine v_gR C 4 v 3 28 v (C_m C (u_4 v hi_v)) k_4 (by decide) x_250 (fun _ _ _ => rfl) dX4_amountOf_19 ?_
        refine v_iload_n C 1 dX4_amountOf_22 rfl ?_
        refine v_iald C 28 v (C_m C (u_28 v hi_v)) ⟨by decide, rfl, rfl⟩ (v_in (N := 20) (by decide) (by clear C; grind) (by clear C; grind)) dX4_amountOf_23 ?_
        refine v_goto C 28 dX4_amountOf_24 (by decide) ?_
        exact v_iret C dX4_amountOf_28 ⟨(by clear C; simp only [stepF]; grind), (congr (congrArg Prod.mk rfl) rfl)⟩
abbrev P_X4_isOver (w : Wi) (z : Wj) (v : Nat) (sp : Int32) (ti : Int32) : Int32 → WW → Prop := fun r_ u_ => r_ = (overF (w 420 v 0) (w 29 v) sp ti) ∧ u_ = (w, z)
set_option maxHeartbeats 4000000 in
set_option maxRecDepth 100000 in
theorem c_X4_isOver (E : En) (hE : q_ok E) (w : Wi) (z : Wj) (v : Nat) (hi_v : v < 2) (sp : Int32) (ti : Int32) : CtI M_X4_isOver E [.ref (E.ad 4 v), .int sp, .int ti] w z (P_X4_isOver w z v sp ti) := by
  refine ctI_of (lv := [(0, .ref (E.ad 4 v)), (1, .int sp), (2, .int ti)]) hE m_X4_isOver (Nat.le_of_ble_eq_true rfl) rfl ?_
  intro K A C0
  have C : Cx K E A cX4_isOver 3 RX4 (some .boolean) { frames := 0, cells := 0, slots := 0, locals := 0 } := C0
  clear C0
  refine v_iload_n C 1 dX4_isOver_0 rfl ?_
  refine v_if_lt C 34 dX4_isOver_1 (by decide) (fun c_1 => ?_) (fun c_1 => ?_)
  · refine v_iconst (v := 0) C dX4_isOver_34 (by decide) ?_
    exact v_zret C dX4_isOver_35 (by decide) ⟨(by clear C; simp only [overF]; grind), (congr (congrArg Prod.mk rfl) rfl)⟩
  · refine v_iload_n C 1 dX4_isOver_4 rfl ?_
    refine v_aload_n C 0 dX4_isOver_5 rfl ?_
    refine v_gI C 4 v 0 420 (w 420 v 0) (C_m C (u_4 v hi_v)) k_4 (by decide) rfl rfl x_243 rfl dX4_isOver_6 ?_
    refine v_iconst (v := 1) C dX4_isOver_9 (by decide) ?_
    refine v_isub C dX4_isOver_10 ?_
    refine v_ic_ge C 34 dX4_isOver_11 (by decide) (fun c_11 => ?_) (fun c_11 => ?_)
    · refine v_iconst (v := 0) C dX4_isOver_34 (by decide) ?_
      exact v_zret C dX4_isOver_35 (by decide) ⟨(by clear C; simp only [overF]; grind), (congr (congrArg Prod.mk rfl) rfl)⟩
    · refine v_iload_n C 1 dX4_isOver_14 rfl ?_
      refine v_bipush (v := 20) C dX4_isOver_15 (by decide) ?_
      refine v_ic_ge C 34 dX4_isOver_17 (by decide) (fun c_17 => ?_) (fun c_17 => ?_)
      · refine v_iconst (v := 0) C dX4_isOver_34 (by decide) ?_
        exact v_zret C dX4_isOver_35 (by decide) ⟨(by clear C; simp only [overF]; grind), (congr (congrArg Prod.mk rfl) rfl)⟩
      · refine v_iload_n C 2 dX4_isOver_20 rfl ?_
        refine v_aload_n C 0 dX4_isOver_21 rfl ?_
        refine v_gR C 4 v 4 29 v (C_m C (u_4 v hi_v)) k_4 (by decide) x_251 (fun _ _ _ => rfl) dX4_isOver_22 ?_
        refine v_iload_n C 1 dX4_isOver_25 rfl ?_
        refine v_iald C 29 v (C_m C (u_29 v hi_v)) ⟨by decide, rfl, rfl⟩ (v_in (N := 20) (by decide) (by clear C; grind) (by clear C; grind)) dX4_isOver_26 ?_
        refine v_ic_le C 34 dX4_isOver_27 (by decide) (fun c_27 => ?_) (fun c_27 => ?_)
        · refine v_iconst (v := 0) C dX4_isOver_34 (by decide) ?_
          exact v_zret C dX4_isOver_35 (by decide) ⟨(by clear C; simp only [overF]; grind), (congr (congrArg Prod.mk rfl) rfl)⟩
        · refine v_iconst (v := 1) C dX4_isOver_30 (by decide) ?_
          refine v_goto C 35 dX4_isOver_31 (by decide) ?_
          exact v_zret C dX4_isOver_35 (by decide) ⟨(by clear C; simp only [overF]; grind), (congr (congrArg Prod.mk rfl) rfl)⟩
abbrev P_X4_copyFrom (w : Wi) (z : Wj) (v : Nat) (x : Nat) : WW → Prop := fun u_ => u_ = ((wS (wS (wS (wS (wS w 27 v (va_cpy (w 27 x) (w 27 v) 0 0 20)) 28 v (va_cpy (w 28 x) (w 28 v) 0 0 20)) 29 v (va_cpy (w 29 x) (w 29 v) 0 0 20)) 420 v (fun _ => (w 420 x 0))) 421 v (fun _ => (w 421 x 0))), z)
set_option maxHeartbeats 4000000 in
set_option maxRecDepth 100000 in
theorem c_X4_copyFrom (E : En) (hE : q_ok E) (w : Wi) (z : Wj) (v : Nat) (hi_v : v < 2) (x : Nat) (hi_x : x < 2) (h1 : (w 421 x 0) = 0 ∨ (w 421 x 0) = 1) : CtV M_X4_copyFrom E [.ref (E.ad 4 v), .ref (E.ad 4 x)] w z (P_X4_copyFrom w z v x) := by
  refine ctV_of (lv := [(0, .ref (E.ad 4 v)), (1, .ref (E.ad 4 x))]) hE m_X4_copyFrom (Nat.le_of_ble_eq_true rfl) rfl ?_
  intro K A C0
  have C : Cx K E A cX4_copyFrom 2 RX4 none { frames := 1, cells := 0, slots := 0, locals := 26 } := C0
  clear C0
  refine v_aload_n C 0 dX4_copyFrom_0 rfl ?_
  refine v_aload_n C 1 dX4_copyFrom_1 rfl ?_
  refine v_gI C 4 x 0 420 (w 420 x 0) (C_m C (u_4 x hi_x)) k_4 (by decide) rfl rfl x_243 rfl dX4_copyFrom_2 ?_
  refine v_pI C 4 v 0 420 (C_m C (u_4 v hi_v)) k_4 ty_4 (by decide) rfl ⟨rfl, rfl⟩ x_243 rfl rfl dX4_copyFrom_5 ?_
  refine v_aload_n C 0 dX4_copyFrom_8 rfl ?_
  refine v_aload_n C 1 dX4_copyFrom_9 rfl ?_
  refine v_gI C 4 x 1 421 (w 421 x 0) (C_m C (u_4 x hi_x)) k_4 (by decide) rfl rfl x_246 (by simp only [wS_s, wS_t, wS_a, ne_eq, Nat.reduceEqDiff, not_false_eq_true]) dX4_copyFrom_10 ?_
  refine v_pI C 4 v 1 421 (C_m C (u_4 v hi_v)) k_4 ty_4 (by decide) rfl ⟨rfl, rfl⟩ x_246 (nb h1) (fb h1) dX4_copyFrom_13 ?_
  refine v_aload_n C 1 dX4_copyFrom_16 rfl ?_
  refine v_gR C 4 x 2 27 x (C_m C (u_4 x hi_x)) k_4 (by decide) x_249 (fun _ _ _ => rfl) dX4_copyFrom_17 ?_
  refine v_iconst (v := 0) C dX4_copyFrom_20 (by decide) ?_
  refine v_aload_n C 0 dX4_copyFrom_21 rfl ?_
  refine v_gR C 4 v 2 27 v (C_m C (u_4 v hi_v)) k_4 (by decide) x_249 (fun _ _ _ => rfl) dX4_copyFrom_22 ?_
  refine v_iconst (v := 0) C dX4_copyFrom_25 (by decide) ?_
  refine v_bipush (v := 20) C dX4_copyFrom_26 (by decide) ?_
  refine v_copyi C 27 x 27 v x_775 x_777 x_776 x_90 (C_m C (u_27 x hi_x)) ⟨by decide, rfl, rfl⟩ (C_m C (u_27 v hi_v)) ⟨by decide, rfl, rfl⟩ (by decide) (by decide) (by decide) (by decide) (by decide) ⟨by decide, Nat.le_of_ble_eq_true rfl⟩ dX4_copyFrom_28 ?_
  refine v_w (w2 := (wS (wS (wS w 27 v (va_cpy (w 27 x) (w 27 v) 0 0 20)) 420 v (fun _ => (w 420 x 0))) 421 v (fun _ => (w 421 x 0)))) (by first | rfl | (simp only [wS_s, wS_t, wS_a, ne_eq, Nat.reduceEqDiff, not_false_eq_true, wS_wS, wS_p, wS_pp, Nat.reduceLT, id_eq]; try rfl)) ?_
  refine v_aload_n C 1 dX4_copyFrom_31 rfl ?_
  refine v_gR C 4 x 3 28 x (C_m C (u_4 x hi_x)) k_4 (by decide) x_250 (fun _ _ _ => rfl) dX4_copyFrom_32 ?_
  refine v_iconst (v := 0) C dX4_copyFrom_35 (by decide) ?_
  refine v_aload_n C 0 dX4_copyFrom_36 rfl ?_
  refine v_gR C 4 v 3 28 v (C_m C (u_4 v hi_v)) k_4 (by decide) x_250 (fun _ _ _ => rfl) dX4_copyFrom_37 ?_
  refine v_iconst (v := 0) C dX4_copyFrom_40 (by decide) ?_
  refine v_bipush (v := 20) C dX4_copyFrom_41 (by decide) ?_
  refine v_copyi C 28 x 28 v x_775 x_777 x_776 x_90 (C_m C (u_28 x hi_x)) ⟨by decide, rfl, rfl⟩ (C_m C (u_28 v hi_v)) ⟨by decide, rfl, rfl⟩ (by decide) (by decide) (by decide) (by decide) (by decide) ⟨by decide, Nat.le_of_ble_eq_true rfl⟩ dX4_copyFrom_43 ?_
  refine v_w (w2 := (wS (wS (wS (wS w 27 v (va_cpy (w 27 x) (w 27 v) 0 0 20)) 28 v (va_cpy (w 28 x) (w 28 v) 0 0 20)) 420 v (fun _ => (w 420 x 0))) 421 v (fun _ => (w 421 x 0)))) (by first | rfl | (simp only [wS_s, wS_t, wS_a, ne_eq, Nat.reduceEqDiff, not_false_eq_true, wS_wS, wS_p, wS_pp, Nat.reduceLT, id_eq]; try rfl)) ?_
  refine v_aload_n C 1 dX4_copyFrom_46 rfl ?_
  refine v_gR C 4 x 4 29 x (C_m C (u_4 x hi_x)) k_4 (by decide) x_251 (fun _ _ _ => rfl) dX4_copyFrom_47 ?_
  refine v_iconst (v := 0) C dX4_copyFrom_50 (by decide) ?_
  refine v_aload_n C 0 dX4_copyFrom_51 rfl ?_
  refine v_gR C 4 v 4 29 v (C_m C (u_4 v hi_v)) k_4 (by decide) x_251 (fun _ _ _ => rfl) dX4_copyFrom_52 ?_
  refine v_iconst (v := 0) C dX4_copyFrom_55 (by decide) ?_
  refine v_bipush (v := 20) C dX4_copyFrom_56 (by decide) ?_
  refine v_copyi C 29 x 29 v x_775 x_777 x_776 x_90 (C_m C (u_29 x hi_x)) ⟨by decide, rfl, rfl⟩ (C_m C (u_29 v hi_v)) ⟨by decide, rfl, rfl⟩ (by decide) (by decide) (by decide) (by decide) (by decide) ⟨by decide, Nat.le_of_ble_eq_true rfl⟩ dX4_copyFrom_58 ?_
  refine v_w (w2 := (wS (wS (wS (wS (wS w 27 v (va_cpy (w 27 x) (w 27 v) 0 0 20)) 28 v (va_cpy (w 28 x) (w 28 v) 0 0 20)) 29 v (va_cpy (w 29 x) (w 29 v) 0 0 20)) 420 v (fun _ => (w 420 x 0))) 421 v (fun _ => (w 421 x 0)))) (by first | rfl | (simp only [wS_s, wS_t, wS_a, ne_eq, Nat.reduceEqDiff, not_false_eq_true, wS_wS, wS_p, wS_pp, Nat.reduceLT, id_eq]; try rfl)) ?_
  exact v_vret C dX4_copyFrom_61 (congr (congrArg Prod.mk rfl) rfl)
