abbrev P_X7_putNumber (w : Wi) (z : Wj) (n : Int32) : WW → Prop := fun u_ => u_ = ((wS (wS w 37 0 (put4 (w 37 0) (w 661 0 0) n)) 661 0 (fun _ => (w 661 0 0) + 4)), z)
set_option maxHeartbeats 4000000 in
set_option maxRecDepth 100000 in
theorem c_X7_putNumber (E : En) (hE : q_ok E) (w : Wi) (z : Wj) (n : Int32) (h1 : 0 ≤ (w 661 0 0)) (h2 : (w 661 0 0) + 4 ≤ 740) (h3 : (w 661 0 0) ≤ 740) : CtV M_X7_putNumber E [.ref (E.ad 7 0), .int n] w z (P_X7_putNumber w z n) := by
  refine ctV_of (lv := [(0, .ref (E.ad 7 0)), (1, .int n)]) hE m_X7_putNumber (Nat.le_of_ble_eq_true rfl) rfl ?_
  intro K A C0
  have C : Cx K E A cX7_putNumber 3 RX7 none { frames := 0, cells := 0, slots := 0, locals := 0 } := C0
  clear C0
  refine v_bipush (v := 24) C dX7_putNumber_0 (by decide) ?_
  refine v_istore_n (lv2 := [(2, .int 24), (0, .ref (E.ad 7 0)), (1, .int n)]) C dX7_putNumber_2 rfl (by decide) rfl ?_
  refine v_iload_n C 0 dX7_putNumber_3 rfl ?_
  refine v_if_lt C 49 dX7_putNumber_4 (by decide) (fun h_ => absurd h_ (by decide)) (fun _ => ?_)
  refine v_aload_n C 1 dX7_putNumber_7 rfl ?_
  refine v_gI C 7 0 1 661 (w 661 0 0) (C_m C (u_7 0 (by decide))) k_7 (by decide) rfl rfl x_112 rfl dX7_putNumber_8 ?_
  refine v_sipush (v := 740) C dX7_putNumber_11 (by decide) ?_
  refine v_ic_ge C 43 dX7_putNumber_14 (by decide) (fun c_14 => absurd c_14 (by clear C; grind)) (fun c_14 => ?_)
  refine v_aload_n C 1 dX7_putNumber_17 rfl ?_
  refine v_gR C 7 0 0 37 0 (C_m C (u_7 0 (by decide))) k_7 (by decide) x_110 (fun _ _ _ => rfl) dX7_putNumber_18 ?_
  refine v_aload_n C 1 dX7_putNumber_21 rfl ?_
  refine v_gI C 7 0 1 661 (w 661 0 0) (C_m C (u_7 0 (by decide))) k_7 (by decide) rfl rfl x_112 rfl dX7_putNumber_22 ?_
  refine v_iload_n C 2 dX7_putNumber_25 rfl ?_
  refine v_iload_n C 0 dX7_putNumber_26 rfl ?_
  refine v_ishr C dX7_putNumber_27 ?_
  refine v_sipush (v := 255) C dX7_putNumber_28 (by decide) ?_
  refine v_iand C dX7_putNumber_31 ?_
  refine v_iast C 37 0 (C_m C (u_37 0 (by decide))) ⟨by decide, rfl, rfl⟩ (v_in (N := 740) (by decide) (by clear C; grind) (by clear C; grind)) dX7_putNumber_32 ?_
  refine v_aload_n C 1 dX7_putNumber_33 rfl ?_
  refine v_dup C dX7_putNumber_34 rfl ?_
  refine v_gI C 7 0 1 661 (w 661 0 0) (C_m C (u_7 0 (by decide))) k_7 (by decide) rfl rfl x_112 (by simp only [wS_s, wS_t, wS_a, ne_eq, Nat.reduceEqDiff, not_false_eq_true]) dX7_putNumber_35 ?_
  refine v_iconst (v := 1) C dX7_putNumber_38 (by decide) ?_
  refine v_iadd C dX7_putNumber_39 ?_
  refine v_pI C 7 0 1 661 (C_m C (u_7 0 (by decide))) k_7 ty_7 (by decide) rfl ⟨rfl, rfl⟩ x_112 rfl rfl dX7_putNumber_40 ?_
  refine v_iinc (v := 16) (lv2 := [(2, .int 16), (0, .ref (E.ad 7 0)), (1, .int n)]) C 0 dX7_putNumber_43 rfl (by decide) (by decide) rfl ?_
  refine v_goto C 3 dX7_putNumber_46 (by decide) ?_
  refine v_iload_n C 0 dX7_putNumber_3 rfl ?_
  refine v_if_lt C 49 dX7_putNumber_4 (by decide) (fun h_ => absurd h_ (by decide)) (fun _ => ?_)
  refine v_aload_n C 1 dX7_putNumber_7 rfl ?_
  refine v_gI C 7 0 1 661 ((w 661 0 0) + 1) (C_m C (u_7 0 (by decide))) k_7 (by decide) rfl rfl x_112 (by simp only [wS_s, wS_t, wS_a, ne_eq, Nat.reduceEqDiff, not_false_eq_true]) dX7_putNumber_8 ?_
  refine v_sipush (v := 740) C dX7_putNumber_11 (by decide) ?_
  refine v_ic_ge C 43 dX7_putNumber_14 (by decide) (fun c_14 => absurd c_14 (by clear C; grind)) (fun c_14 => ?_)
  refine v_aload_n C 1 dX7_putNumber_17 rfl ?_
  refine v_gR C 7 0 0 37 0 (C_m C (u_7 0 (by decide))) k_7 (by decide) x_110 (fun _ _ _ => rfl) dX7_putNumber_18 ?_
  refine v_aload_n C 1 dX7_putNumber_21 rfl ?_
  refine v_gI C 7 0 1 661 ((w 661 0 0) + 1) (C_m C (u_7 0 (by decide))) k_7 (by decide) rfl rfl x_112 (by simp only [wS_s, wS_t, wS_a, ne_eq, Nat.reduceEqDiff, not_false_eq_true]) dX7_putNumber_22 ?_
  refine v_iload_n C 2 dX7_putNumber_25 rfl ?_
  refine v_iload_n C 0 dX7_putNumber_26 rfl ?_
  refine v_ishr C dX7_putNumber_27 ?_
  refine v_sipush (v := 255) C dX7_putNumber_28 (by decide) ?_
  refine v_iand C dX7_putNumber_31 ?_
  refine v_iast C 37 0 (C_m C (u_37 0 (by decide))) ⟨by decide, rfl, rfl⟩ (v_in (N := 740) (by decide) (by clear C; grind) (by clear C; grind)) dX7_putNumber_32 ?_
  refine v_aload_n C 1 dX7_putNumber_33 rfl ?_
  refine v_dup C dX7_putNumber_34 rfl ?_
  refine v_gI C 7 0 1 661 ((w 661 0 0) + 1) (C_m C (u_7 0 (by decide))) k_7 (by decide) rfl rfl x_112 (by simp only [wS_s, wS_t, wS_a, ne_eq, Nat.reduceEqDiff, not_false_eq_true]) dX7_putNumber_35 ?_
  refine v_iconst (v := 1) C dX7_putNumber_38 (by decide) ?_
  refine v_iadd C dX7_putNumber_39 ?_
  refine v_pI C 7 0 1 661 (C_m C (u_7 0 (by decide))) k_7 ty_7 (by decide) rfl ⟨rfl, rfl⟩ x_112 rfl rfl dX7_putNumber_40 ?_
  refine v_iinc (v := 8) (lv2 := [(2, .int 8), (0, .ref (E.ad 7 0)), (1, .int n)]) C 0 dX7_putNumber_43 rfl (by decide) (by decide) rfl ?_
  refine v_goto C 3 dX7_putNumber_46 (by decide) ?_
  refine v_iload_n C 0 dX7_putNumber_3 rfl ?_
  refine v_if_lt C 49 dX7_putNumber_4 (by decide) (fun h_ => absurd h_ (by decide)) (fun _ => ?_)
  refine v_aload_n C 1 dX7_putNumber_7 rfl ?_
  refine v_gI C 7 0 1 661 (((w 661 0 0) + 1) + 1) (C_m C (u_7 0 (by decide))) k_7 (by decide) rfl rfl x_112 (by simp only [wS_s, wS_t, wS_a, ne_eq, Nat.reduceEqDiff, not_false_eq_true]) dX7_putNumber_8 ?_
  refine v_sipush (v := 740) C dX7_putNumber_11 (by decide) ?_
  refine v_ic_ge C 43 dX7_putNumber_14 (by decide) (fun c_14 => absurd c_14 (by clear C; grind)) (fun c_14 => ?_)
  refine v_aload_n C 1 dX7_putNumber_17 rfl ?_
  refine v_gR C 7 0 0 37 0 (C_m C (u_7 0 (by decide))) k_7 (by decide) x_110 (fun _ _ _ => rfl) dX7_putNumber_18 ?_
  refine v_aload_n C 1 dX7_putNumber_21 rfl ?_
  refine v_gI C 7 0 1 661 (((w 661 0 0) + 1) + 1) (C_m C (u_7 0 (by decide))) k_7 (by decide) rfl rfl x_112 (by simp only [wS_s, wS_t, wS_a, ne_eq, Nat.reduceEqDiff, not_false_eq_true]) dX7_putNumber_22 ?_
  refine v_iload_n C 2 dX7_putNumber_25 rfl ?_
  refine v_iload_n C 0 dX7_putNumber_26 rfl ?_
  refine v_ishr C dX7_putNumber_27 ?_
  refine v_sipush (v := 255) C dX7_putNumber_28 (by decide) ?_
  refine v_iand C dX7_putNumber_31 ?_
  refine v_iast C 37 0 (C_m C (u_37 0 (by decide))) ⟨by decide, rfl, rfl⟩ (v_in (N := 740) (by decide) (by clear C; grind) (by clear C; grind)) dX7_putNumber_32 ?_
  refine v_aload_n C 1 dX7_putNumber_33 rfl ?_
  refine v_dup C dX7_putNumber_34 rfl ?_
  refine v_gI C 7 0 1 661 (((w 661 0 0) + 1) + 1) (C_m C (u_7 0 (by decide))) k_7 (by decide) rfl rfl x_112 (by simp only [wS_s, wS_t, wS_a, ne_eq, Nat.reduceEqDiff, not_false_eq_true]) dX7_putNumber_35 ?_
  refine v_iconst (v := 1) C dX7_putNumber_38 (by decide) ?_
  refine v_iadd C dX7_putNumber_39 ?_
  refine v_pI C 7 0 1 661 (C_m C (u_7 0 (by decide))) k_7 ty_7 (by decide) rfl ⟨rfl, rfl⟩ x_112 rfl rfl dX7_putNumber_40 ?_
  refine v_iinc (v := 0) (lv2 := [(2, .int 0), (0, .ref (E.ad 7 0)), (1, .int n)]) C 0 dX7_putNumber_43 rfl (by decide) (by decide) rfl ?_
  refine v_goto C 3 dX7_putNumber_46 (by decide) ?_
  refine v_iload_n C 0 dX7_putNumber_3 rfl ?_
  refine v_if_lt C 49 dX7_putNumber_4 (by decide) (fun h_ => absurd h_ (by decide)) (fun _ => ?_)
  refine v_aload_n C 1 dX7_putNumber_7 rfl ?_
  refine v_gI C 7 0 1 661 ((((w 661 0 0) + 1) + 1) + 1) (C_m C (u_7 0 (by decide))) k_7 (by decide) rfl rfl x_112 (by simp only [wS_s, wS_t, wS_a, ne_eq, Nat.reduceEqDiff, not_false_eq_true]) dX7_putNumber_8 ?_
  refine v_sipush (v := 740) C dX7_putNumber_11 (by decide) ?_
  refine v_ic_ge C 43 dX7_putNumber_14 (by decide) (fun c_14 => absurd c_14 (by clear C; grind)) (fun c_14 => ?_)
  refine v_aload_n C 1 dX7_putNumber_17 rfl ?_
  refine v_gR C 7 0 0 37 0 (C_m C (u_7 0 (by decide))) k_7 (by decide) x_110 (fun _ _ _ => rfl) dX7_putNumber_18 ?_
  refine v_aload_n C 1 dX7_putNumber_21 rfl ?_
  refine v_gI C 7 0 1 661 ((((w 661 0 0) + 1) + 1) + 1) (C_m C (u_7 0 (by decide))) k_7 (by decide) rfl rfl x_112 (by simp only [wS_s, wS_t, wS_a, ne_eq, Nat.reduceEqDiff, not_false_eq_true]) dX7_putNumber_22 ?_
  refine v_iload_n C 2 dX7_putNumber_25 rfl ?_
  refine v_iload_n C 0 dX7_putNumber_26 rfl ?_
  refine v_ishr C dX7_putNumber_27 ?_
  refine v_sipush (v := 255) C dX7_putNumber_28 (by decide) ?_
  refine v_iand C dX7_putNumber_31 ?_
  refine v_iast C 37 0 (C_m C (u_37 0 (by decide))) ⟨by decide, rfl, rfl⟩ (v_in (N := 740) (by decide) (by clear C; grind) (by clear C; grind)) dX7_putNumber_32 ?_
  refine v_aload_n C 1 dX7_putNumber_33 rfl ?_
  refine v_dup C dX7_putNumber_34 rfl ?_
  refine v_gI C 7 0 1 661 ((((w 661 0 0) + 1) + 1) + 1) (C_m C (u_7 0 (by decide))) k_7 (by decide) rfl rfl x_112 (by simp only [wS_s, wS_t, wS_a, ne_eq, Nat.reduceEqDiff, not_false_eq_true]) dX7_putNumber_35 ?_
  refine v_iconst (v := 1) C dX7_putNumber_38 (by decide) ?_
  refine v_iadd C dX7_putNumber_39 ?_
  refine v_pI C 7 0 1 661 (C_m C (u_7 0 (by decide))) k_7 ty_7 (by decide) rfl ⟨rfl, rfl⟩ x_112 rfl rfl dX7_putNumber_40 ?_
  refine v_iinc (v := (-8)) (lv2 := [(2, .int (-8)), (0, .ref (E.ad 7 0)), (1, .int n)]) C 0 dX7_putNumber_43 rfl (by decide) (by decide) rfl ?_
  refine v_goto C 3 dX7_putNumber_46 (by decide) ?_
  refine v_iload_n C 0 dX7_putNumber_3 rfl ?_
  refine v_if_lt C 49 dX7_putNumber_4 (by decide) (fun _ => ?_) (fun h_ => absurd h_ (by decide))
  refine v_w (w2 := (wS (wS w 37 0 (upd (upd (upd (upd (w 37 0) (w 661 0 0).toNatClampNeg ((n >>> (24 &&& 31)) &&& 255)) ((w 661 0 0) + 1).toNatClampNeg ((n >>> (16 &&& 31)) &&& 255)) (((w 661 0 0) + 1) + 1).toNatClampNeg ((n >>> (8 &&& 31)) &&& 255)) ((((w 661 0 0) + 1) + 1) + 1).toNatClampNeg ((n >>> (0 &&& 31)) &&& 255))) 661 0 (fun _ => (((((w 661 0 0) + 1) + 1) + 1) + 1)))) (by simp only [wS_s, wS_t, wS_a, ne_eq, Nat.reduceEqDiff, not_false_eq_true, wS_wS, wS_p, wS_pp, Nat.reduceLT, id_eq]) ?_
  exact v_vret C dX7_putNumber_49 (congr (congrArg Prod.mk (wS_eq (wS_eq rfl (by clear C; rfl)) (fu_eq (by clear C; grind)))) rfl)
