abbrev P_X7_hasRoom (w : Wi) (z : Wj) (more : Int32) : Int32 → WW → Prop := fun r_ u_ => r_ = (if (w 661 0 0) + more ≤ 740 then 1 else 0) ∧ u_ = (w, z)
set_option maxHeartbeats 4000000 in
set_option maxRecDepth 100000 in
theorem c_X7_hasRoom (E : En) (hE : q_ok E) (w : Wi) (z : Wj) (more : Int32) : CtI M_X7_hasRoom E [.ref (E.ad 7 0), .int more] w z (P_X7_hasRoom w z more) := by
  refine ctI_of (lv := [(0, .ref (E.ad 7 0)), (1, .int more)]) hE m_X7_hasRoom (Nat.le_of_ble_eq_true rfl) rfl ?_
  intro K A C0
  have C : Cx K E A cX7_hasRoom 2 RX7 (some .boolean) { frames := 0, cells := 0, slots := 0, locals := 0 } := C0
  clear C0
  refine v_aload_n C 0 dX7_hasRoom_0 rfl ?_
  refine v_gI C 7 0 1 661 (w 661 0 0) (C_m C (u_7 0 (by decide))) k_7 (by decide) rfl rfl x_112 rfl dX7_hasRoom_1 ?_
  refine v_iload_n C 1 dX7_hasRoom_4 rfl ?_
  refine v_iadd C dX7_hasRoom_5 ?_
  refine v_sipush (v := 740) C dX7_hasRoom_6 (by decide) ?_
  refine v_ic_gt C 16 dX7_hasRoom_9 (by decide) (fun c_9 => ?_) (fun c_9 => ?_)
  · refine v_iconst (v := 0) C dX7_hasRoom_16 (by decide) ?_
    exact v_zret C dX7_hasRoom_17 (by decide) ⟨(by clear C; grind), (congr (congrArg Prod.mk rfl) rfl)⟩
  · refine v_iconst (v := 1) C dX7_hasRoom_12 (by decide) ?_
    refine v_goto C 17 dX7_hasRoom_13 (by decide) ?_
    exact v_zret C dX7_hasRoom_17 (by decide) ⟨(by clear C; grind), (congr (congrArg Prod.mk rfl) rfl)⟩
abbrev P_X7_keepFirst (w : Wi) (z : Wj) (n : Int32) : Int32 → WW → Prop := fun r_ u_ => r_ = (if n < 0 ∨ (w 661 0 0) < n then 0 else 1) ∧ u_ = ((wS w 661 0 (fun _ => if n < 0 ∨ (w 661 0 0) < n then (w 661 0 0) else n)), z)
set_option maxHeartbeats 4000000 in
set_option maxRecDepth 100000 in
theorem c_X7_keepFirst (E : En) (hE : q_ok E) (w : Wi) (z : Wj) (n : Int32) : CtI M_X7_keepFirst E [.ref (E.ad 7 0), .int n] w z (P_X7_keepFirst w z n) := by
  refine ctI_of (lv := [(0, .ref (E.ad 7 0)), (1, .int n)]) hE m_X7_keepFirst (Nat.le_of_ble_eq_true rfl) rfl ?_
  intro K A C0
  have C : Cx K E A cX7_keepFirst 2 RX7 (some .boolean) { frames := 0, cells := 0, slots := 0, locals := 0 } := C0
  clear C0
  refine v_iload_n C 1 dX7_keepFirst_0 rfl ?_
  refine v_if_lt C 12 dX7_keepFirst_1 (by decide) (fun c_1 => ?_) (fun c_1 => ?_)
  · refine v_iconst (v := 0) C dX7_keepFirst_12 (by decide) ?_
    refine v_tS C 661 0 (by decide) ?_
    refine v_w (w2 := (wS w 661 0 (fun _ => (w 661 0 0)))) (by simp only [wS_s, wS_t, wS_a, ne_eq, Nat.reduceEqDiff, not_false_eq_true, wS_wS, wS_p, wS_pp, Nat.reduceLT, id_eq]) ?_
    exact v_zret C dX7_keepFirst_13 (by decide) ⟨(by clear C; grind), (congr (congrArg Prod.mk (wS_eq rfl (fu_eq (by clear C; grind)))) rfl)⟩
  · refine v_iload_n C 1 dX7_keepFirst_4 rfl ?_
    refine v_aload_n C 0 dX7_keepFirst_5 rfl ?_
    refine v_gI C 7 0 1 661 (w 661 0 0) (C_m C (u_7 0 (by decide))) k_7 (by decide) rfl rfl x_112 rfl dX7_keepFirst_6 ?_
    refine v_ic_le C 14 dX7_keepFirst_9 (by decide) (fun c_9 => ?_) (fun c_9 => ?_)
    · refine v_aload_n C 0 dX7_keepFirst_14 rfl ?_
      refine v_iload_n C 1 dX7_keepFirst_15 rfl ?_
      refine v_pI C 7 0 1 661 (C_m C (u_7 0 (by decide))) k_7 ty_7 (by decide) rfl ⟨rfl, rfl⟩ x_112 rfl rfl dX7_keepFirst_16 ?_
      refine v_iconst (v := 1) C dX7_keepFirst_19 (by decide) ?_
      exact v_zret C dX7_keepFirst_20 (by decide) ⟨(by clear C; grind), (congr (congrArg Prod.mk (wS_eq rfl (fu_eq (by clear C; grind)))) rfl)⟩
    · refine v_iconst (v := 0) C dX7_keepFirst_12 (by decide) ?_
      refine v_tS C 661 0 (by decide) ?_
      refine v_w (w2 := (wS w 661 0 (fun _ => (w 661 0 0)))) (by simp only [wS_s, wS_t, wS_a, ne_eq, Nat.reduceEqDiff, not_false_eq_true, wS_wS, wS_p, wS_pp, Nat.reduceLT, id_eq]) ?_
      exact v_zret C dX7_keepFirst_13 (by decide) ⟨(by clear C; grind), (congr (congrArg Prod.mk (wS_eq rfl (fu_eq (by clear C; grind)))) rfl)⟩
abbrev P_X7_byteAt (w : Wi) (z : Wj) (p : Int32) : Int32 → WW → Prop := fun r_ u_ => r_ = (if 0 ≤ p ∧ p < (w 661 0 0) then (w 37 0) (p).toNatClampNeg else (-1)) ∧ u_ = (w, z)
set_option maxHeartbeats 4000000 in
set_option maxRecDepth 100000 in
theorem c_X7_byteAt (E : En) (hE : q_ok E) (w : Wi) (z : Wj) (p : Int32) (h1 : (w 661 0 0) ≤ 740) : CtI M_X7_byteAt E [.ref (E.ad 7 0), .int p] w z (P_X7_byteAt w z p) := by
  refine ctI_of (lv := [(0, .ref (E.ad 7 0)), (1, .int p)]) hE m_X7_byteAt (Nat.le_of_ble_eq_true rfl) rfl ?_
  intro K A C0
  have C : Cx K E A cX7_byteAt 2 RX7 (some .int) { frames := 0, cells := 0, slots := 0, locals := 0 } := C0
  clear C0
  refine v_iload_n C 1 dX7_byteAt_0 rfl ?_
  refine v_if_lt C 21 dX7_byteAt_1 (by decide) (fun c_1 => ?_) (fun c_1 => ?_)
  · refine v_iconst (v := (-1)) C dX7_byteAt_21 (by decide) ?_
    exact v_iret C dX7_byteAt_22 ⟨(by clear C; grind), (congr (congrArg Prod.mk rfl) rfl)⟩
  · refine v_iload_n C 1 dX7_byteAt_4 rfl ?_
    refine v_aload_n C 0 dX7_byteAt_5 rfl ?_
    refine v_gI C 7 0 1 661 (w 661 0 0) (C_m C (u_7 0 (by decide))) k_7 (by decide) rfl rfl x_112 rfl dX7_byteAt_6 ?_
    refine v_ic_ge C 21 dX7_byteAt_9 (by decide) (fun c_9 => ?_) (fun c_9 => ?_)
    · refine v_iconst (v := (-1)) C dX7_byteAt_21 (by decide) ?_
      exact v_iret C dX7_byteAt_22 ⟨(by clear C; grind), (congr (congrArg Prod.mk rfl) rfl)⟩
    · refine v_aload_n C 0 dX7_byteAt_12 rfl ?_
      refine v_gR C 7 0 0 37 0 (C_m C (u_7 0 (by decide))) k_7 (by decide) x_110 (fun _ _ _ => rfl) dX7_byteAt_13 ?_
      refine v_iload_n C 1 dX7_byteAt_16 rfl ?_
      refine v_iald C 37 0 (C_m C (u_37 0 (by decide))) ⟨by decide, rfl, rfl⟩ (v_in (N := 740) (by decide) (by clear C; grind) (by clear C; grind)) dX7_byteAt_17 ?_
      refine v_goto C 22 dX7_byteAt_18 (by decide) ?_
      exact v_iret C dX7_byteAt_22 ⟨(by clear C; grind), (congr (congrArg Prod.mk rfl) rfl)⟩
abbrev P_X7_pairAt (w : Wi) (z : Wj) (p : Int32) : Int32 → WW → Prop := fun r_ u_ => r_ = ((if 0 ≤ p ∧ p < (w 661 0 0) then (w 37 0) (p).toNatClampNeg else (-1)) * 256 + (if 0 ≤ p + 1 ∧ p + 1 < (w 661 0 0) then (w 37 0) (p + 1).toNatClampNeg else (-1))) ∧ u_ = (w, z)
set_option maxHeartbeats 4000000 in
set_option maxRecDepth 100000 in
theorem c_X7_pairAt (E : En) (hE : q_ok E) (w : Wi) (z : Wj) (p : Int32) (h1 : (w 661 0 0) ≤ 740) : CtI M_X7_pairAt E [.ref (E.ad 7 0), .int p] w z (P_X7_pairAt w z p) := by
  refine ctI_of (lv := [(0, .ref (E.ad 7 0)), (1, .int p)]) hE m_X7_pairAt (Nat.le_of_ble_eq_true rfl) rfl ?_
  intro K A C0
  have C : Cx K E A cX7_pairAt 2 RX7 (some .int) { frames := 1, cells := 0, slots := 0, locals := 21 } := C0
  clear C0
  refine v_aload_n C 0 dX7_pairAt_0 rfl ?_
  refine v_iload_n C 1 dX7_pairAt_1 rfl ?_
  refine v_vI C 7 0 [.int p] 1 (c_X7_byteAt E hE _ _  p  (by clear C; first | assumption | grind)) m_X7_byteAt x_1007 x_584 x_585 p_X7_byteAt rfl ⟨Nat.le_of_ble_eq_true rfl, Nat.le_of_ble_eq_true rfl⟩ (C_m C (u_7 0 (by decide))) k_7 rfl (Nat.le_of_ble_eq_true rfl) dX7_pairAt_2 (fun r1 u1 v1 hp1 => ?_)
  obtain ⟨hr1, hu1⟩ := hp1
  subst hr1
  cases hu1
  refine v_sipush (v := 256) C dX7_pairAt_5 (by decide) ?_
  refine v_imul C dX7_pairAt_8 ?_
  refine v_aload_n C 0 dX7_pairAt_9 rfl ?_
  refine v_iload_n C 1 dX7_pairAt_10 rfl ?_
  refine v_iconst (v := 1) C dX7_pairAt_11 (by decide) ?_
  refine v_iadd C dX7_pairAt_12 ?_
  refine v_vI C 7 0 [.int (p + 1)] 1 (c_X7_byteAt E hE _ _  (p + 1)  (by clear C; first | assumption | grind)) m_X7_byteAt x_1007 x_584 x_585 p_X7_byteAt rfl ⟨Nat.le_of_ble_eq_true rfl, Nat.le_of_ble_eq_true rfl⟩ (C_m C (u_7 0 (by decide))) k_7 rfl (Nat.le_of_ble_eq_true rfl) dX7_pairAt_13 (fun r2 u2 v2 hp2 => ?_)
  obtain ⟨hr2, hu2⟩ := hp2
  subst hr2
  cases hu2
  refine v_iadd C dX7_pairAt_16 ?_
  exact v_iret C dX7_pairAt_17 ⟨(by clear C; grind), (congr (congrArg Prod.mk rfl) rfl)⟩
