abbrev P_X11_day (w : Wi) (z : Wj) (hot : Int32) : Int32 → WW → Prop := fun r_ u_ => r_ = (if (if (w 661 0 0) < 1 ∨ 16 < (w 661 0 0) then 0 else rowR (w 37 0) ((w 661 0 0)).toNatClampNeg 0 0) = 0 ∨ 40 ≤ (w 180 0 0) then (-1) else (w 180 0 0)) ∧ u_ = ((wS (wS (wS w 19 0 (if (if (w 661 0 0) < 1 ∨ 16 < (w 661 0 0) then 0 else rowR (w 37 0) ((w 661 0 0)).toNatClampNeg 0 0) = 0 ∨ 40 ≤ (w 180 0 0) then (w 19 0) else upd (w 19 0) ((w 180 0 0)).toNatClampNeg (vp_nar .boolean hot))) 180 0 (fun _ => if (if (w 661 0 0) < 1 ∨ 16 < (w 661 0 0) then 0 else rowR (w 37 0) ((w 661 0 0)).toNatClampNeg 0 0) = 0 ∨ 40 ≤ (w 180 0 0) then (w 180 0 0) else (w 180 0 0) + 1)) 661 0 (fun _ => 0)), (wS (wS z 17 0 (if (if (w 661 0 0) < 1 ∨ 16 < (w 661 0 0) then 0 else rowR (w 37 0) ((w 661 0 0)).toNatClampNeg 0 0) = 0 ∨ 40 ≤ (w 180 0 0) then (z 17 0) else vp_updL (z 17 0) ((w 180 0 0)).toNatClampNeg (if (w 661 0 0) < 1 ∨ 16 < (w 661 0 0) then 0 else rowR (w 37 0) ((w 661 0 0)).toNatClampNeg 0 0))) 18 0 (if (if (w 661 0 0) < 1 ∨ 16 < (w 661 0 0) then 0 else rowR (w 37 0) ((w 661 0 0)).toNatClampNeg 0 0) = 0 ∨ 40 ≤ (w 180 0 0) then (z 18 0) else vp_updL (z 18 0) ((w 180 0 0)).toNatClampNeg 0)))
set_option maxHeartbeats 4000000 in
set_option maxRecDepth 100000 in
theorem c_X11_day (E : En) (hE : q_ok E) (w : Wi) (z : Wj) (hot : Int32) (h1 : 0 ≤ (w 661 0 0)) (h2 : (w 661 0 0) ≤ 740) (h3 : 0 ≤ (w 180 0 0)) : CtI M_X11_day E [.ref (E.ad 11 0), .int hot] w z (P_X11_day w z hot) := by
  refine ctI_of (lv := [(0, .ref (E.ad 11 0)), (1, .int hot)]) hE m_X11_day (Nat.le_of_ble_eq_true rfl) rfl ?_
  intro K A C0
  have C : Cx K E A cX11_day 4 RX11 (some .int) { frames := 2, cells := 0, slots := 0, locals := 47 } := C0
  clear C0
  refine v_aload_n C 0 dX11_day_0 rfl ?_
  refine v_gR C 11 0 10 1 0 (C_m C (u_11 0 (by decide))) k_11 (by decide) x_510 (fun _ _ _ => rfl) dX11_day_1 ?_
  refine v_aload_n C 0 dX11_day_4 rfl ?_
  refine v_gR C 11 0 0 7 0 (C_m C (u_11 0 (by decide))) k_11 (by decide) x_500 (fun _ _ _ => rfl) dX11_day_5 ?_
  refine v_vJ C 1 0 [.ref (E.ad 7 0)] 1 (c_X1_rowOf E hE _ _    (by clear C; first | assumption | grind)) m_X1_rowOf x_1086 x_1087 x_1088 p_X1_rowOf rfl ⟨Nat.le_of_ble_eq_true rfl, Nat.le_of_ble_eq_true rfl⟩ (C_m C (u_1 0 (by decide))) k_1 rfl (Nat.le_of_ble_eq_true rfl) dX11_day_8 (fun r1 u1 v1 hp1 => ?_)
  obtain ⟨hr1, hu1⟩ := hp1
  subst hr1
  cases hu1
  refine v_lstore_n (lv2 := [(2, .long (if (w 661 0 0) < 1 ∨ 16 < (w 661 0 0) then 0 else rowR (w 37 0) ((w 661 0 0)).toNatClampNeg 0 0)), (0, .ref (E.ad 11 0)), (1, .int hot)]) C dX11_day_11 rfl (by decide) rfl ?_
  refine v_aload_n C 1 dX11_day_12 rfl ?_
  refine v_gR C 11 0 0 7 0 (C_m C (u_11 0 (by decide))) k_11 (by decide) x_500 (fun _ _ _ => rfl) dX11_day_13 ?_
  refine v_iconst (v := 0) C dX11_day_16 (by decide) ?_
  refine v_vI C 7 0 [.int 0] 1 (c_X7_keepFirst E hE _ _  0  ) m_X7_keepFirst x_556 x_557 x_558 p_X7_keepFirst rfl ⟨Nat.le_of_ble_eq_true rfl, Nat.le_of_ble_eq_true rfl⟩ (C_m C (u_7 0 (by decide))) k_7 rfl (Nat.le_of_ble_eq_true rfl) dX11_day_17 (fun r2 u2 v2 hp2 => ?_)
  obtain ⟨hr2, hu2⟩ := hp2
  subst hr2
  cases hu2
  refine v_pop C dX11_day_20 rfl ?_
  refine v_aload_n C 1 dX11_day_21 rfl ?_
  refine v_gR C 11 0 10 1 0 (C_m C (u_11 0 (by decide))) k_11 (by decide) x_510 (fun _ _ _ => rfl) dX11_day_22 ?_
  refine v_lload_n C 0 dX11_day_25 rfl ?_
  refine v_iload_n C 2 dX11_day_26 rfl ?_
  refine v_vI C 1 0 [.long (if (w 661 0 0) < 1 ∨ 16 < (w 661 0 0) then 0 else rowR (w 37 0) ((w 661 0 0)).toNatClampNeg 0 0), .int hot] 2 (c_X1_addDay E hE _ _  (if (w 661 0 0) < 1 ∨ 16 < (w 661 0 0) then 0 else rowR (w 37 0) ((w 661 0 0)).toNatClampNeg 0 0) hot  (by clear C; (try simp only [wS_s, wS_t, wS_a, ne_eq, Nat.reduceEqDiff, not_false_eq_true]); assumption)) m_X1_addDay x_1097 x_1098 x_1099 p_X1_addDay rfl ⟨Nat.le_of_ble_eq_true rfl, Nat.le_of_ble_eq_true rfl⟩ (C_m C (u_1 0 (by decide))) k_1 rfl (Nat.le_of_ble_eq_true rfl) dX11_day_27 (fun r3 u3 v3 hp3 => ?_)
  obtain ⟨hr3, hu3⟩ := hp3
  subst hr3
  cases hu3
  refine v_i (y := if (if (w 661 0 0) < 1 ∨ 16 < (w 661 0 0) then 0 else rowR (w 37 0) ((w 661 0 0)).toNatClampNeg 0 0) = 0 ∨ 40 ≤ (w 180 0 0) then (-1) else (w 180 0 0)) (by simp only [wS_s, wS_t, wS_a, ne_eq, Nat.reduceEqDiff, not_false_eq_true]) ?_
  refine v_w (w2 := (wS (wS (wS w 19 0 (if (if (w 661 0 0) < 1 ∨ 16 < (w 661 0 0) then 0 else rowR (w 37 0) ((w 661 0 0)).toNatClampNeg 0 0) = 0 ∨ 40 ≤ (w 180 0 0) then (w 19 0) else upd (w 19 0) ((w 180 0 0)).toNatClampNeg (vp_nar .boolean hot))) 180 0 (fun _ => if (if (w 661 0 0) < 1 ∨ 16 < (w 661 0 0) then 0 else rowR (w 37 0) ((w 661 0 0)).toNatClampNeg 0 0) = 0 ∨ 40 ≤ (w 180 0 0) then (w 180 0 0) else (w 180 0 0) + 1)) 661 0 (fun _ => if (0 : Int32) < 0 ∨ (w 661 0 0) < (0 : Int32) then (w 661 0 0) else (0 : Int32)))) (by simp only [wS_s, wS_t, wS_a, ne_eq, Nat.reduceEqDiff, not_false_eq_true, wS_wS, wS_p, wS_pp, Nat.reduceLT, id_eq]) ?_
  refine v_z (z2 := (wS (wS z 17 0 (if (if (w 661 0 0) < 1 ∨ 16 < (w 661 0 0) then 0 else rowR (w 37 0) ((w 661 0 0)).toNatClampNeg 0 0) = 0 ∨ 40 ≤ (w 180 0 0) then (z 17 0) else vp_updL (z 17 0) ((w 180 0 0)).toNatClampNeg (if (w 661 0 0) < 1 ∨ 16 < (w 661 0 0) then 0 else rowR (w 37 0) ((w 661 0 0)).toNatClampNeg 0 0))) 18 0 (if (if (w 661 0 0) < 1 ∨ 16 < (w 661 0 0) then 0 else rowR (w 37 0) ((w 661 0 0)).toNatClampNeg 0 0) = 0 ∨ 40 ≤ (w 180 0 0) then (z 18 0) else vp_updL (z 18 0) ((w 180 0 0)).toNatClampNeg 0))) (by simp only [wS_s, wS_t, wS_a, ne_eq, Nat.reduceEqDiff, not_false_eq_true, wS_wS, wS_p, wS_pp, Nat.reduceLT, id_eq]) ?_
  exact v_iret C dX11_day_30 ⟨rfl, (congr (congrArg Prod.mk (wS_eq (wS_eq (wS_eq rfl rfl) rfl) (fu_eq (by clear C; first | rfl | (rw [if_neg (by grind)]))))) rfl)⟩
abbrev P_X11_next (w : Wi) (z : Wj) : Int32 → WW → Prop := fun r_ u_ => r_ = (if (if (w 661 0 0) < 1 ∨ 16 < (w 661 0 0) then 0 else rowR (w 37 0) ((w 661 0 0)).toNatClampNeg 0 0) = 0 ∨ (w 180 0 0) = 0 then (-1) else if (foR (lsF (z 17 0) (z 18 0) (w 19 0) ((w 180 0 0) - 1)) (fun k => inB (if (w 661 0 0) < 1 ∨ 16 < (w 661 0 0) then 0 else rowR (w 37 0) ((w 661 0 0)).toNatClampNeg 0 0) (nI k) ≠ 0 ∧ bsR (z 18 0) (nI k) ((w 180 0 0) - lsF (z 17 0) (z 18 0) (w 19 0) ((w 180 0 0) - 1) k).toNatClampNeg (lsF (z 17 0) (z 18 0) (w 19 0) ((w 180 0 0) - 1) k).toNatClampNeg ≠ 0) 40).1 = 0 then (-1) else if (foR (lsF (z 17 0) (z 18 0) (w 19 0) ((w 180 0 0) - 1)) (fun k => inB (if (w 661 0 0) < 1 ∨ 16 < (w 661 0 0) then 0 else rowR (w 37 0) ((w 661 0 0)).toNatClampNeg 0 0) (nI k) ≠ 0 ∧ bsR (z 18 0) (nI k) ((w 180 0 0) - lsF (z 17 0) (z 18 0) (w 19 0) ((w 180 0 0) - 1) k).toNatClampNeg (lsF (z 17 0) (z 18 0) (w 19 0) ((w 180 0 0) - 1) k).toNatClampNeg ≠ 0) 40).2 = 0 then 0 else if (foR (lsF (z 17 0) (z 18 0) (w 19 0) ((w 180 0 0) - 1)) (fun k => inB (if (w 661 0 0) < 1 ∨ 16 < (w 661 0 0) then 0 else rowR (w 37 0) ((w 661 0 0)).toNatClampNeg 0 0) (nI k) ≠ 0 ∧ bsR (z 18 0) (nI k) ((w 180 0 0) - lsF (z 17 0) (z 18 0) (w 19 0) ((w 180 0 0) - 1) k).toNatClampNeg (lsF (z 17 0) (z 18 0) (w 19 0) ((w 180 0 0) - 1) k).toNatClampNeg ≠ 0) 40).2 = (foR (lsF (z 17 0) (z 18 0) (w 19 0) ((w 180 0 0) - 1)) (fun k => inB (if (w 661 0 0) < 1 ∨ 16 < (w 661 0 0) then 0 else rowR (w 37 0) ((w 661 0 0)).toNatClampNeg 0 0) (nI k) ≠ 0 ∧ bsR (z 18 0) (nI k) ((w 180 0 0) - lsF (z 17 0) (z 18 0) (w 19 0) ((w 180 0 0) - 1) k).toNatClampNeg (lsF (z 17 0) (z 18 0) (w 19 0) ((w 180 0 0) - 1) k).toNatClampNeg ≠ 0) 40).1 then 1 else 2) ∧ u_ = ((wS w 661 0 (fun _ => 0)), z)
set_option maxHeartbeats 4000000 in
set_option maxRecDepth 100000 in
theorem c_X11_next (E : En) (hE : q_ok E) (w : Wi) (z : Wj) (h1 : 0 ≤ (w 661 0 0)) (h2 : (w 661 0 0) ≤ 740) (h3 : (w 180 0 0) ≤ 40) (h4 : 0 ≤ (w 180 0 0)) : CtI M_X11_next E [.ref (E.ad 11 0)] w z (P_X11_next w z) := by
  refine ctI_of (lv := [(0, .ref (E.ad 11 0))]) hE m_X11_next (Nat.le_of_ble_eq_true rfl) rfl ?_
  intro K A C0
  have C : Cx K E A cX11_next 3 RX11 (some .int) { frames := 4, cells := 0, slots := 0, locals := 96 } := C0
  clear C0
  refine v_aload_n C 0 dX11_next_0 rfl ?_
  refine v_gR C 11 0 10 1 0 (C_m C (u_11 0 (by decide))) k_11 (by decide) x_510 (fun _ _ _ => rfl) dX11_next_1 ?_
  refine v_aload_n C 0 dX11_next_4 rfl ?_
  refine v_gR C 11 0 0 7 0 (C_m C (u_11 0 (by decide))) k_11 (by decide) x_500 (fun _ _ _ => rfl) dX11_next_5 ?_
  refine v_vJ C 1 0 [.ref (E.ad 7 0)] 1 (c_X1_rowOf E hE _ _    (by clear C; first | assumption | grind)) m_X1_rowOf x_1086 x_1087 x_1088 p_X1_rowOf rfl ⟨Nat.le_of_ble_eq_true rfl, Nat.le_of_ble_eq_true rfl⟩ (C_m C (u_1 0 (by decide))) k_1 rfl (Nat.le_of_ble_eq_true rfl) dX11_next_8 (fun r1 u1 v1 hp1 => ?_)
  obtain ⟨hr1, hu1⟩ := hp1
  subst hr1
  cases hu1
  refine v_lstore_n (lv2 := [(1, .long (if (w 661 0 0) < 1 ∨ 16 < (w 661 0 0) then 0 else rowR (w 37 0) ((w 661 0 0)).toNatClampNeg 0 0)), (0, .ref (E.ad 11 0))]) C dX11_next_11 rfl (by decide) rfl ?_
  refine v_aload_n C 1 dX11_next_12 rfl ?_
  refine v_gR C 11 0 0 7 0 (C_m C (u_11 0 (by decide))) k_11 (by decide) x_500 (fun _ _ _ => rfl) dX11_next_13 ?_
  refine v_iconst (v := 0) C dX11_next_16 (by decide) ?_
  refine v_vI C 7 0 [.int 0] 1 (c_X7_keepFirst E hE _ _  0  ) m_X7_keepFirst x_556 x_557 x_558 p_X7_keepFirst rfl ⟨Nat.le_of_ble_eq_true rfl, Nat.le_of_ble_eq_true rfl⟩ (C_m C (u_7 0 (by decide))) k_7 rfl (Nat.le_of_ble_eq_true rfl) dX11_next_17 (fun r2 u2 v2 hp2 => ?_)
  obtain ⟨hr2, hu2⟩ := hp2
  subst hr2
  cases hu2
  refine v_pop C dX11_next_20 rfl ?_
  refine v_aload_n C 1 dX11_next_21 rfl ?_
  refine v_gR C 11 0 10 1 0 (C_m C (u_11 0 (by decide))) k_11 (by decide) x_510 (fun _ _ _ => rfl) dX11_next_22 ?_
  refine v_lload_n C 0 dX11_next_25 rfl ?_
  refine v_vI C 1 0 [.long (if (w 661 0 0) < 1 ∨ 16 < (w 661 0 0) then 0 else rowR (w 37 0) ((w 661 0 0)).toNatClampNeg 0 0)] 1 (c_X1_foresee E hE _ _  (if (w 661 0 0) < 1 ∨ 16 < (w 661 0 0) then 0 else rowR (w 37 0) ((w 661 0 0)).toNatClampNeg 0 0)  (by clear C; (try simp only [wS_s, wS_t, wS_a, ne_eq, Nat.reduceEqDiff, not_false_eq_true]); assumption) (by clear C; (try simp only [wS_s, wS_t, wS_a, ne_eq, Nat.reduceEqDiff, not_false_eq_true]); assumption)) m_X1_foresee x_1137 x_1138 x_1139 p_X1_foresee rfl ⟨Nat.le_of_ble_eq_true rfl, Nat.le_of_ble_eq_true rfl⟩ (C_m C (u_1 0 (by decide))) k_1 rfl (Nat.le_of_ble_eq_true rfl) dX11_next_26 (fun r3 u3 v3 hp3 => ?_)
  obtain ⟨hr3, hu3⟩ := hp3
  subst hr3
  cases hu3
  refine v_i (y := if (if (w 661 0 0) < 1 ∨ 16 < (w 661 0 0) then 0 else rowR (w 37 0) ((w 661 0 0)).toNatClampNeg 0 0) = 0 ∨ (w 180 0 0) = 0 then (-1) else if (foR (lsF (z 17 0) (z 18 0) (w 19 0) ((w 180 0 0) - 1)) (fun k => inB (if (w 661 0 0) < 1 ∨ 16 < (w 661 0 0) then 0 else rowR (w 37 0) ((w 661 0 0)).toNatClampNeg 0 0) (nI k) ≠ 0 ∧ bsR (z 18 0) (nI k) ((w 180 0 0) - lsF (z 17 0) (z 18 0) (w 19 0) ((w 180 0 0) - 1) k).toNatClampNeg (lsF (z 17 0) (z 18 0) (w 19 0) ((w 180 0 0) - 1) k).toNatClampNeg ≠ 0) 40).1 = 0 then (-1) else if (foR (lsF (z 17 0) (z 18 0) (w 19 0) ((w 180 0 0) - 1)) (fun k => inB (if (w 661 0 0) < 1 ∨ 16 < (w 661 0 0) then 0 else rowR (w 37 0) ((w 661 0 0)).toNatClampNeg 0 0) (nI k) ≠ 0 ∧ bsR (z 18 0) (nI k) ((w 180 0 0) - lsF (z 17 0) (z 18 0) (w 19 0) ((w 180 0 0) - 1) k).toNatClampNeg (lsF (z 17 0) (z 18 0) (w 19 0) ((w 180 0 0) - 1) k).toNatClampNeg ≠ 0) 40).2 = 0 then 0 else if (foR (lsF (z 17 0) (z 18 0) (w 19 0) ((w 180 0 0) - 1)) (fun k => inB (if (w 661 0 0) < 1 ∨ 16 < (w 661 0 0) then 0 else rowR (w 37 0) ((w 661 0 0)).toNatClampNeg 0 0) (nI k) ≠ 0 ∧ bsR (z 18 0) (nI k) ((w 180 0 0) - lsF (z 17 0) (z 18 0) (w 19 0) ((w 180 0 0) - 1) k).toNatClampNeg (lsF (z 17 0) (z 18 0) (w 19 0) ((w 180 0 0) - 1) k).toNatClampNeg ≠ 0) 40).2 = (foR (lsF (z 17 0) (z 18 0) (w 19 0) ((w 180 0 0) - 1)) (fun k => inB (if (w 661 0 0) < 1 ∨ 16 < (w 661 0 0) then 0 else rowR (w 37 0) ((w 661 0 0)).toNatClampNeg 0 0) (nI k) ≠ 0 ∧ bsR (z 18 0) (nI k) ((w 180 0 0) - lsF (z 17 0) (z 18 0) (w 19 0) ((w 180 0 0) - 1) k).toNatClampNeg (lsF (z 17 0) (z 18 0) (w 19 0) ((w 180 0 0) - 1) k).toNatClampNeg ≠ 0) 40).1 then 1 else 2) (by simp only [wS_s, wS_t, wS_a, ne_eq, Nat.reduceEqDiff, not_false_eq_true]) ?_
  exact v_iret C dX11_next_29 ⟨rfl, (congr (congrArg Prod.mk (wS_eq rfl (fu_eq (by clear C; first | rfl | (rw [if_neg (by grind)]))))) rfl)⟩
