abbrev P_X5_setFact_2 (w : Wi) (z : Wj) (a : Nat) (c : Int32) (x : Int32) : WW → Prop := fun u_ => u_ = ((wS w 32 a (upd (w 32 a) (c).toNatClampNeg x)), z)
set_option maxHeartbeats 4000000 in
set_option maxRecDepth 100000 in
theorem c_X5_setFact_2 (E : En) (hE : q_ok E) (w : Wi) (z : Wj) (a : Nat) (hi_a : a < 4) (c : Int32) (x : Int32) (h1 : (w 500 a 0) ≤ 16) (h2 : 1 ≤ c) (h3 : c ≤ (w 500 a 0)) : CtV M_X5_setFact E [.ref (E.ad 5 a), .int c, .int 2, .int x] w z (P_X5_setFact_2 w z a c x) := by
  refine ctV_of (lv := [(0, .ref (E.ad 5 a)), (1, .int c), (2, .int 2), (3, .int x)]) hE m_X5_setFact (Nat.le_of_ble_eq_true rfl) rfl ?_
  intro K A C0
  have C : Cx K E A cX5_setFact 4 RX5 none { frames := 1, cells := 0, slots := 0, locals := 21 } := C0
  clear C0
  refine v_aload_n C 0 dX5_setFact_0 rfl ?_
  refine v_iload_n C 1 dX5_setFact_1 rfl ?_
  refine v_vI C 5 a [.int c] 1 (c_X5_has E hE _ _ a hi_a c  ) m_X5_has x_709 x_710 x_711 p_X5_has rfl ⟨Nat.le_of_ble_eq_true rfl, Nat.le_of_ble_eq_true rfl⟩ (C_m C (u_5 a hi_a)) k_5 rfl (Nat.le_of_ble_eq_true rfl) dX5_setFact_2 (fun r1 u1 v1 hp1 => ?_)
  obtain ⟨hr1, hu1⟩ := hp1
  subst hr1
  cases hu1
  refine v_if_ne C 9 dX5_setFact_5 (by decide) (fun c_5 => ?_) (fun c_5 => absurd c_5 (by clear C; grind))
  refine v_iload_n C 2 dX5_setFact_9 rfl ?_
  refine v_tin C 34 44 dX5_setFact_10 (by decide) (by decide) (by decide) (by decide) ?_
  refine v_aload_n C 0 dX5_setFact_44 rfl ?_
  refine v_gR C 5 a 5 32 a (C_m C (u_5 a hi_a)) k_5 (by decide) x_184 (fun _ _ _ => rfl) dX5_setFact_45 ?_
  refine v_iload_n C 1 dX5_setFact_48 rfl ?_
  refine v_iload_n C 3 dX5_setFact_49 rfl ?_
  refine v_iast C 32 a (C_m C (u_32 a hi_a)) ⟨by decide, rfl, rfl⟩ (v_in (N := 17) (by decide) (by clear C; grind) (by clear C; grind)) dX5_setFact_50 ?_
  refine v_goto C 94 dX5_setFact_51 (by decide) ?_
  exact v_vret C dX5_setFact_94 (congr (congrArg Prod.mk (wS_eq rfl (by clear C; grind))) rfl)
abbrev P_X5_setFact_3 (w : Wi) (z : Wj) (a : Nat) (c : Int32) (x : Int32) : WW → Prop := fun u_ => u_ = ((wS w 33 a (upd (w 33 a) (c).toNatClampNeg x)), z)
set_option maxHeartbeats 4000000 in
set_option maxRecDepth 100000 in
theorem c_X5_setFact_3 (E : En) (hE : q_ok E) (w : Wi) (z : Wj) (a : Nat) (hi_a : a < 4) (c : Int32) (x : Int32) (h1 : (w 500 a 0) ≤ 16) (h2 : 1 ≤ c) (h3 : c ≤ (w 500 a 0)) : CtV M_X5_setFact E [.ref (E.ad 5 a), .int c, .int 3, .int x] w z (P_X5_setFact_3 w z a c x) := by
  refine ctV_of (lv := [(0, .ref (E.ad 5 a)), (1, .int c), (2, .int 3), (3, .int x)]) hE m_X5_setFact (Nat.le_of_ble_eq_true rfl) rfl ?_
  intro K A C0
  have C : Cx K E A cX5_setFact 4 RX5 none { frames := 1, cells := 0, slots := 0, locals := 21 } := C0
  clear C0
  refine v_aload_n C 0 dX5_setFact_0 rfl ?_
  refine v_iload_n C 1 dX5_setFact_1 rfl ?_
  refine v_vI C 5 a [.int c] 1 (c_X5_has E hE _ _ a hi_a c  ) m_X5_has x_709 x_710 x_711 p_X5_has rfl ⟨Nat.le_of_ble_eq_true rfl, Nat.le_of_ble_eq_true rfl⟩ (C_m C (u_5 a hi_a)) k_5 rfl (Nat.le_of_ble_eq_true rfl) dX5_setFact_2 (fun r1 u1 v1 hp1 => ?_)
  obtain ⟨hr1, hu1⟩ := hp1
  subst hr1
  cases hu1
  refine v_if_ne C 9 dX5_setFact_5 (by decide) (fun c_5 => ?_) (fun c_5 => absurd c_5 (by clear C; grind))
  refine v_iload_n C 2 dX5_setFact_9 rfl ?_
  refine v_tin C 44 54 dX5_setFact_10 (by decide) (by decide) (by decide) (by decide) ?_
  refine v_aload_n C 0 dX5_setFact_54 rfl ?_
  refine v_gR C 5 a 6 33 a (C_m C (u_5 a hi_a)) k_5 (by decide) x_188 (fun _ _ _ => rfl) dX5_setFact_55 ?_
  refine v_iload_n C 1 dX5_setFact_58 rfl ?_
  refine v_iload_n C 3 dX5_setFact_59 rfl ?_
  refine v_iast C 33 a (C_m C (u_33 a hi_a)) ⟨by decide, rfl, rfl⟩ (v_in (N := 17) (by decide) (by clear C; grind) (by clear C; grind)) dX5_setFact_60 ?_
  refine v_goto C 94 dX5_setFact_61 (by decide) ?_
  exact v_vret C dX5_setFact_94 (congr (congrArg Prod.mk (wS_eq rfl (by clear C; grind))) rfl)
abbrev P_X5_setFact_4 (w : Wi) (z : Wj) (a : Nat) (c : Int32) (x : Int32) : WW → Prop := fun u_ => u_ = ((wS w 34 a (upd (w 34 a) (c).toNatClampNeg x)), z)
set_option maxHeartbeats 4000000 in
set_option maxRecDepth 100000 in
theorem c_X5_setFact_4 (E : En) (hE : q_ok E) (w : Wi) (z : Wj) (a : Nat) (hi_a : a < 4) (c : Int32) (x : Int32) (h1 : (w 500 a 0) ≤ 16) (h2 : 1 ≤ c) (h3 : c ≤ (w 500 a 0)) : CtV M_X5_setFact E [.ref (E.ad 5 a), .int c, .int 4, .int x] w z (P_X5_setFact_4 w z a c x) := by
  refine ctV_of (lv := [(0, .ref (E.ad 5 a)), (1, .int c), (2, .int 4), (3, .int x)]) hE m_X5_setFact (Nat.le_of_ble_eq_true rfl) rfl ?_
  intro K A C0
  have C : Cx K E A cX5_setFact 4 RX5 none { frames := 1, cells := 0, slots := 0, locals := 21 } := C0
  clear C0
  refine v_aload_n C 0 dX5_setFact_0 rfl ?_
  refine v_iload_n C 1 dX5_setFact_1 rfl ?_
  refine v_vI C 5 a [.int c] 1 (c_X5_has E hE _ _ a hi_a c  ) m_X5_has x_709 x_710 x_711 p_X5_has rfl ⟨Nat.le_of_ble_eq_true rfl, Nat.le_of_ble_eq_true rfl⟩ (C_m C (u_5 a hi_a)) k_5 rfl (Nat.le_of_ble_eq_true rfl) dX5_setFact_2 (fun r1 u1 v1 hp1 => ?_)
  obtain ⟨hr1, hu1⟩ := hp1
  subst hr1
  cases hu1
  refine v_if_ne C 9 dX5_setFact_5 (by decide) (fun c_5 => ?_) (fun c_5 => absurd c_5 (by clear C; grind))
  refine v_iload_n C 2 dX5_setFact_9 rfl ?_
  refine v_tin C 54 64 dX5_setFact_10 (by decide) (by decide) (by decide) (by decide) ?_
  refine v_aload_n C 0 dX5_setFact_64 rfl ?_
  refine v_gR C 5 a 7 34 a (C_m C (u_5 a hi_a)) k_5 (by decide) x_190 (fun _ _ _ => rfl) dX5_setFact_65 ?_
  refine v_iload_n C 1 dX5_setFact_68 rfl ?_
  refine v_iload_n C 3 dX5_setFact_69 rfl ?_
  refine v_iast C 34 a (C_m C (u_34 a hi_a)) ⟨by decide, rfl, rfl⟩ (v_in (N := 17) (by decide) (by clear C; grind) (by clear C; grind)) dX5_setFact_70 ?_
  refine v_goto C 94 dX5_setFact_71 (by decide) ?_
  exact v_vret C dX5_setFact_94 (congr (congrArg Prod.mk (wS_eq rfl (by clear C; grind))) rfl)
abbrev P_X5_setFact_5 (w : Wi) (z : Wj) (a : Nat) (c : Int32) (x : Int32) : WW → Prop := fun u_ => u_ = ((wS w 35 a (upd (w 35 a) (c).toNatClampNeg x)), z)
set_option maxHeartbeats 4000000 in
set_option maxRecDepth 100000 in
theorem c_X5_setFact_5 (E : En) (hE : q_ok E) (w : Wi) (z : Wj) (a : Nat) (hi_a : a < 4) (c : Int32) (x : Int32) (h1 : (w 500 a 0) ≤ 16) (h2 : 1 ≤ c) (h3 : c ≤ (w 500 a 0)) : CtV M_X5_setFact E [.ref (E.ad 5 a), .int c, .int 5, .int x] w z (P_X5_setFact_5 w z a c x) := by
  refine ctV_of (lv := [(0, .ref (E.ad 5 a)), (1, .int c), (2, .int 5), (3, .int x)]) hE m_X5_setFact (Nat.le_of_ble_eq_true rfl) rfl ?_
  intro K A C0
  have C : Cx K E A cX5_setFact 4 RX5 none { frames := 1, cells := 0, slots := 0, locals := 21 } := C0
  clear C0
  refine v_aload_n C 0 dX5_setFact_0 rfl ?_
  refine v_iload_n C 1 dX5_setFact_1 rfl ?_
  refine v_vI C 5 a [.int c] 1 (c_X5_has E hE _ _ a hi_a c  ) m_X5_has x_709 x_710 x_711 p_X5_has rfl ⟨Nat.le_of_ble_eq_true rfl, Nat.le_of_ble_eq_true rfl⟩ (C_m C (u_5 a hi_a)) k_5 rfl (Nat.le_of_ble_eq_true rfl) dX5_setFact_2 (fun r1 u1 v1 hp1 => ?_)
  obtain ⟨hr1, hu1⟩ := hp1
  subst hr1
  cases hu1
  refine v_if_ne C 9 dX5_setFact_5 (by decide) (fun c_5 => ?_) (fun c_5 => absurd c_5 (by clear C; grind))
  refine v_iload_n C 2 dX5_setFact_9 rfl ?_
  refine v_tin C 64 74 dX5_setFact_10 (by decide) (by decide) (by decide) (by decide) ?_
  refine v_aload_n C 0 dX5_setFact_74 rfl ?_
  refine v_gR C 5 a 8 35 a (C_m C (u_5 a hi_a)) k_5 (by decide) x_192 (fun _ _ _ => rfl) dX5_setFact_75 ?_
  refine v_iload_n C 1 dX5_setFact_78 rfl ?_
  refine v_iload_n C 3 dX5_setFact_79 rfl ?_
  refine v_iast C 35 a (C_m C (u_35 a hi_a)) ⟨by decide, rfl, rfl⟩ (v_in (N := 17) (by decide) (by clear C; grind) (by clear C; grind)) dX5_setFact_80 ?_
  refine v_goto C 94 dX5_setFact_81 (by decide) ?_
  exact v_vret C dX5_setFact_94 (congr (congrArg Prod.mk (wS_eq rfl (by clear C; grind))) rfl)
abbrev P_X5_setFact_6 (w : Wi) (z : Wj) (a : Nat) (c : Int32) (x : Int32) : WW → Prop := fun u_ => u_ = ((wS w 36 a (upd (w 36 a) (c).toNatClampNeg x)), z)
set_option maxHeartbeats 4000000 in
set_option maxRecDepth 100000 in
theorem c_X5_setFact_6 (E : En) (hE : q_ok E) (w : Wi) (z : Wj) (a : Nat) (hi_a : a < 4) (c : Int32) (x : Int32) (h1 : (w 500 a 0) ≤ 16) (h2 : 1 ≤ c) (h3 : c ≤ (w 500 a 0)) : CtV M_X5_setFact E [.ref (E.ad 5 a), .int c, .int 6, .int x] w z (P_X5_setFact_6 w z a c x) := by
  refine ctV_of (lv := [(0, .ref (E.ad 5 a)), (1, .int c), (2, .int 6), (3, .int x)]) hE m_X5_setFact (Nat.le_of_ble_eq_true rfl) rfl ?_
  intro K A C0
  have C : Cx K E A cX5_setFact 4 RX5 none { frames := 1, cells := 0, slots := 0, locals := 21 } := C0
  clear C0
  refine v_aload_n C 0 dX5_setFact_0 rfl ?_
  refine v_iload_n C 1 dX5_setFact_1 rfl ?_
  refine v_vI C 5 a [.int c] 1 (c_X5_has E hE _ _ a hi_a c  ) m_X5_has x_709 x_710 x_711 p_X5_has rfl ⟨Nat.le_of_ble_eq_true rfl, Nat.le_of_ble_eq_true rfl⟩ (C_m C (u_5 a hi_a)) k_5 rfl (Nat.le_of_ble_eq_true rfl) dX5_setFact_2 (fun r1 u1 v1 hp1 => ?_)
  obtain ⟨hr1, hu1⟩ := hp1
  subst hr1
  cases hu1
  refine v_if_ne C 9 dX5_setFact_5 (by decide) (fun c_5 => ?_) (fun c_5 => absurd c_5 (by clear C; grind))
  refine v_iload_n C 2 dX5_setFact_9 rfl ?_
  refine v_tin C 74 84 dX5_setFact_10 (by decide) (by decide) (by decide) (by decide) ?_
  refine v_aload_n C 0 dX5_setFact_84 rfl ?_
  refine v_gR C 5 a 9 36 a (C_m C (u_5 a hi_a)) k_5 (by decide) x_194 (fun _ _ _ => rfl) dX5_setFact_85 ?_
  refine v_iload_n C 1 dX5_setFact_88 rfl ?_
  refine v_iload_n C 3 dX5_setFact_89 rfl ?_
  refine v_iast C 36 a (C_m C (u_36 a hi_a)) ⟨by decide, rfl, rfl⟩ (v_in (N := 17) (by decide) (by clear C; grind) (by clear C; grind)) dX5_setFact_90 ?_
  refine v_goto C 94 dX5_setFact_91 (by decide) ?_
  exact v_vret C dX5_setFact_94 (congr (congrArg Prod.mk (wS_eq rfl (by clear C; grind))) rfl)
