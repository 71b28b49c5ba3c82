abbrev P_X12_come (w : Wi) (z : Wj) (n : Int32) : WW → Prop := fun u_ => u_ = ((wS (wS w 41 0 (put4G (w 41 0) (w 1062 0 0) n)) 1062 0 (fun _ => (w 1062 0 0) + 4)), z)
set_option maxHeartbeats 4000000 in
set_option maxRecDepth 100000 in
theorem c_X12_come (E : En) (hM : q_okM E) (w : Wi) (z : Wj) (n : Int32) (h1 : 0 ≤ (w 1062 0 0)) (h2 : (w 1062 0 0) + 4 ≤ 740) (h3 : (w 1062 0 0) ≤ 740) : CtV M_X12_come E [.ref (E.ad 12 0), .int n] w z (P_X12_come w z n) := by
  have hE := hM.1
  refine ctV_of (lv := [(0, .ref (E.ad 12 0)), (1, .int n)]) hE m_X12_come (Nat.le_of_ble_eq_true rfl) rfl ?_
  intro K A C0
  have C : Cx K E A cX12_come 3 RX12 none { frames := 0, cells := 0, slots := 0, locals := 0 } := C0
  clear C0
  obtain ⟨i1, i2, i3, i4⟩ := come_in h1 h2 h3
  refine v_bipush (v := 24) C dX12_come_0 (by decide) ?_
  refine v_istore_n (lv2 := [(2, .int 24), (0, .ref (E.ad 12 0)), (1, .int n)]) C dX12_come_2 rfl (by decide) rfl ?_
  refine v_iload_n C 0 dX12_come_3 rfl ?_
  refine v_if_lt C 39 dX12_come_4 (by decide) (fun h_ => absurd h_ (by decide)) (fun _ => ?_)
  refine v_aload_n C 1 dX12_come_7 rfl ?_
  refine v_gR C 12 0 1 41 0 (hM.2 _ (u_12 0 (by decide))) k_12 (by decide) x_1243 (fun _ _ _ => rfl) dX12_come_8 ?_
  refine v_aload_n C 1 dX12_come_11 rfl ?_
  refine v_gI C 12 0 2 1062 (w 1062 0 0) (hM.2 _ (u_12 0 (by decide))) k_12 (by decide) rfl rfl x_1244 rfl dX12_come_12 ?_
  refine v_iload_n C 2 dX12_come_15 rfl ?_
  refine v_iload_n C 0 dX12_come_16 rfl ?_
  refine v_iushr C dX12_come_17 ?_
  refine v_sipush (v := 255) C dX12_come_18 (by decide) ?_
  refine v_iand C dX12_come_21 ?_
  refine v_iast C 41 0 (hM.2 _ (u_41 0 (by decide))) ⟨by decide, rfl, rfl⟩ (by first | exact i1 | exact i2 | exact i3 | exact i4) dX12_come_22 ?_
  refine v_aload_n C 1 dX12_come_23 rfl ?_
  refine v_dup C dX12_come_24 rfl ?_
  refine v_gI C 12 0 2 1062 (w 1062 0 0) (hM.2 _ (u_12 0 (by decide))) k_12 (by decide) rfl rfl x_1244 (by simp only [wS_s, wS_t, wS_a, ne_eq, Nat.reduceEqDiff, not_false_eq_true, L7_1]) dX12_come_25 ?_
  refine v_iconst (v := 1) C dX12_come_28 (by decide) ?_
  refine v_iadd C dX12_come_29 ?_
  refine v_pI C 12 0 2 1062 (hM.2 _ (u_12 0 (by decide))) k_12 ty_12 (by decide) rfl ⟨rfl, rfl⟩ x_1244 rfl rfl dX12_come_30 ?_
  refine v_iinc (v := 16) (lv2 := [(2, .int 16), (0, .ref (E.ad 12 0)), (1, .int n)]) C 0 dX12_come_33 rfl (by decide) (by decide) rfl ?_
  refine v_goto C 3 dX12_come_36 (by decide) ?_
  refine v_iload_n C 0 dX12_come_3 rfl ?_
  refine v_if_lt C 39 dX12_come_4 (by decide) (fun h_ => absurd h_ (by decide)) (fun _ => ?_)
  refine v_aload_n C 1 dX12_come_7 rfl ?_
  refine v_gR C 12 0 1 41 0 (hM.2 _ (u_12 0 (by decide))) k_12 (by decide) x_1243 (fun _ _ _ => rfl) dX12_come_8 ?_
  refine v_aload_n C 1 dX12_come_11 rfl ?_
  refine v_gI C 12 0 2 1062 ((w 1062 0 0) + 1) (hM.2 _ (u_12 0 (by decide))) k_12 (by decide) rfl rfl x_1244 (by simp only [wS_s, wS_t, wS_a, ne_eq, Nat.reduceEqDiff, not_false_eq_true, L7_1]) dX12_come_12 ?_
  refine v_iload_n C 2 dX12_come_15 rfl ?_
  refine v_iload_n C 0 dX12_come_16 rfl ?_
  refine v_iushr C dX12_come_17 ?_
  refine v_sipush (v := 255) C dX12_come_18 (by decide) ?_
  refine v_iand C dX12_come_21 ?_
  refine v_iast C 41 0 (hM.2 _ (u_41 0 (by decide))) ⟨by decide, rfl, rfl⟩ (by first | exact i1 | exact i2 | exact i3 | exact i4) dX12_come_22 ?_
  refine v_aload_n C 1 dX12_come_23 rfl ?_
  refine v_dup C dX12_come_24 rfl ?_
  refine v_gI C 12 0 2 1062 ((w 1062 0 0) + 1) (hM.2 _ (u_12 0 (by decide))) k_12 (by decide) rfl rfl x_1244 (by simp only [wS_s, wS_t, wS_a, ne_eq, Nat.reduceEqDiff, not_false_eq_true, L7_1]) dX12_come_25 ?_
  refine v_iconst (v := 1) C dX12_come_28 (by decide) ?_
  refine v_iadd C dX12_come_29 ?_
  refine v_pI C 12 0 2 1062 (hM.2 _ (u_12 0 (by decide))) k_12 ty_12 (by decide) rfl ⟨rfl, rfl⟩ x_1244 rfl rfl dX12_come_30 ?_
  refine v_iinc (v := 8) (lv2 := [(2, .int 8), (0, .ref (E.ad 12 0)), (1, .int n)]) C 0 dX12_come_33 rfl (by decide) (by decide) rfl ?_
  refine v_goto C 3 dX12_come_36 (by decide) ?_
  refine v_iload_n C 0 dX12_come_3 rfl ?_
  refine v_if_lt C 39 dX12_come_4 (by decide) (fun h_ => absurd h_ (by decide)) (fun _ => ?_)
  refine v_aload_n C 1 dX12_come_7 rfl ?_
  refine v_gR C 12 0 1 41 0 (hM.2 _ (u_12 0 (by decide))) k_12 (by decide) x_1243 (fun _ _ _ => rfl) dX12_come_8 ?_
  refine v_aload_n C 1 dX12_come_11 rfl ?_
  refine v_gI C 12 0 2 1062 (((w 1062 0 0) + 1) + 1) (hM.2 _ (u_12 0 (by decide))) k_12 (by decide) rfl rfl x_1244 (by simp only [wS_s, wS_t, wS_a, ne_eq, Nat.reduceEqDiff, not_false_eq_true, L7_1]) dX12_come_12 ?_
  refine v_iload_n C 2 dX12_come_15 rfl ?_
  refine v_iload_n C 0 dX12_come_16 rfl ?_
  refine v_iushr C dX12_come_17 ?_
  refine v_sipush (v := 255) C dX12_come_18 (by decide) ?_
  refine v_iand C dX12_come_21 ?_
  refine v_iast C 41 0 (hM.2 _ (u_41 0 (by decide))) ⟨by decide, rfl, rfl⟩ (by first | exact i1 | exact i2 | exact i3 | exact i4) dX12_come_22 ?_
  refine v_aload_n C 1 dX12_come_23 rfl ?_
  refine v_dup C dX12_come_24 rfl ?_
  refine v_gI C 12 0 2 1062 (((w 1062 0 0) + 1) + 1) (hM.2 _ (u_12 0 (by decide))) k_12 (by decide) rfl rfl x_1244 (by simp only [wS_s, wS_t, wS_a, ne_eq, Nat.reduceEqDiff, not_false_eq_true, L7_1]) dX12_come_25 ?_
  refine v_iconst (v := 1) C dX12_come_28 (by decide) ?_
  refine v_iadd C dX12_come_29 ?_
  refine v_pI C 12 0 2 1062 (hM.2 _ (u_12 0 (by decide))) k_12 ty_12 (by decide) rfl ⟨rfl, rfl⟩ x_1244 rfl rfl dX12_come_30 ?_
  refine v_iinc (v := 0) (lv2 := [(2, .int 0), (0, .ref (E.ad 12 0)), (1, .int n)]) C 0 dX12_come_33 rfl (by decide) (by decide) rfl ?_
  refine v_goto C 3 dX12_come_36 (by decide) ?_
  refine v_iload_n C 0 dX12_come_3 rfl ?_
  refine v_if_lt C 39 dX12_come_4 (by decide) (fun h_ => absurd h_ (by decide)) (fun _ => ?_)
  refine v_aload_n C 1 dX12_come_7 rfl ?_
  refine v_gR C 12 0 1 41 0 (hM.2 _ (u_12 0 (by decide))) k_12 (by decide) x_1243 (fun _ _ _ => rfl) dX12_come_8 ?_
  refine v_aload_n C 1 dX12_come_11 rfl ?_
  refine v_gI C 12 0 2 1062 ((((w 1062 0 0) + 1) + 1) + 1) (hM.2 _ (u_12 0 (by decide))) k_12 (by decide) rfl rfl x_1244 (by simp only [wS_s, wS_t, wS_a, ne_eq, Nat.reduceEqDiff, not_false_eq_true, L7_1]) dX12_come_12 ?_
  refine v_iload_n C 2 dX12_come_15 rfl ?_
  refine v_iload_n C 0 dX12_come_16 rfl ?_
  refine v_iushr C dX12_come_17 ?_
  refine v_sipush (v := 255) C dX12_come_18 (by decide) ?_
  refine v_iand C dX12_come_21 ?_
  refine v_iast C 41 0 (hM.2 _ (u_41 0 (by decide))) ⟨by decide, rfl, rfl⟩ (by first | exact i1 | exact i2 | exact i3 | exact i4) dX12_come_22 ?_
  refine v_aload_n C 1 dX12_come_23 rfl ?_
  refine v_dup C dX12_come_24 rfl ?_
  refine v_gI C 12 0 2 1062 ((((w 1062 0 0) + 1) + 1) + 1) (hM.2 _ (u_12 0 (by decide))) k_12 (by decide) rfl rfl x_1244 (by simp only [wS_s, wS_t, wS_a, ne_eq, Nat.reduceEqDiff, not_false_eq_true, L7_1]) dX12_come_25 ?_
  refine v_iconst (v := 1) C dX12_come_28 (by decide) ?_
  refine v_iadd C dX12_come_29 ?_
  refine v_pI C 12 0 2 1062 (hM.2 _ (u_12 0 (by decide))) k_12 ty_12 (by decide) rfl ⟨rfl, rfl⟩ x_1244 rfl rfl dX12_come_30 ?_
  refine v_iinc (v := (-8)) (lv2 := [(2, .int (-8)), (0, .ref (E.ad 12 0)), (1, .int n)]) C 0 dX12_come_33 rfl (by decide) (by decide) rfl ?_
  refine v_goto C 3 dX12_come_36 (by decide) ?_
  refine v_iload_n C 0 dX12_come_3 rfl ?_
  refine v_if_lt C 39 dX12_come_4 (by decide) (fun _ => ?_) (fun h_ => absurd h_ (by decide))
  refine v_w (w2 := (wS (wS w 41 0 (upd (upd (upd (upd (w 41 0) (w 1062 0 0).toNatClampNeg (((n.toUInt32 >>> ((24 : Int32).toUInt32 &&& Int32.toUInt32 31)).toInt32) &&& 255)) ((w 1062 0 0) + 1).toNatClampNeg (((n.toUInt32 >>> ((16 : Int32).toUInt32 &&& Int32.toUInt32 31)).toInt32) &&& 255)) (((w 1062 0 0) + 1) + 1).toNatClampNeg (((n.toUInt32 >>> ((8 : Int32).toUInt32 &&& Int32.toUInt32 31)).toInt32) &&& 255)) ((((w 1062 0 0) + 1) + 1) + 1).toNatClampNeg (((n.toUInt32 >>> ((0 : Int32).toUInt32 &&& Int32.toUInt32 31)).toInt32) &&& 255))) 1062 0 (fun _ => (((((w 1062 0 0) + 1) + 1) + 1) + 1)))) (by simp only [wS_s, wS_t, wS_a, ne_eq, Nat.reduceEqDiff, not_false_eq_true, wS_wS, wS_p, wS_pp, Nat.reduceLT, id_eq, L7_1]) ?_
  exact v_vret C dX12_come_39 (congr (congrArg Prod.mk (wS_eq (wS_eq rfl (by clear C; rfl)) (fu_eq (by clear C; grind)))) rfl)
