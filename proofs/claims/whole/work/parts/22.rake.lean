abbrev P_X5_has (w : Wi) (z : Wj) (a : Nat) (c : Int32) : Int32 → WW → Prop := fun r_ u_ => r_ = (if 1 ≤ c ∧ c ≤ (w 500 a 0) then 1 else 0) ∧ u_ = (w, z)
set_option maxHeartbeats 4000000 in
set_option maxRecDepth 100000 in
theorem c_X5_has (E : En) (hE : q_ok E) (w : Wi) (z : Wj) (a : Nat) (hi_a : a < 4) (c : Int32) : CtI M_X5_has E [.ref (E.ad 5 a), .int c] w z (P_X5_has w z a c) := by
  refine ctI_of (lv := [(0, .ref (E.ad 5 a)), (1, .int c)]) hE m_X5_has (Nat.le_of_ble_eq_true rfl) rfl ?_
  intro K A C0
  have C : Cx K E A cX5_has 2 RX5 (some .boolean) { frames := 0, cells := 0, slots := 0, locals := 0 } := C0
  clear C0
  refine v_iload_n C 1 dX5_has_0 rfl ?_
  refine v_iconst (v := 1) C dX5_has_1 (by decide) ?_
  refine v_ic_lt C 17 dX5_has_2 (by decide) (fun c_2 => ?_) (fun c_2 => ?_)
  · refine v_iconst (v := 0) C dX5_has_17 (by decide) ?_
    exact v_zret C dX5_has_18 (by decide) ⟨(by clear C; grind), (congr (congrArg Prod.mk rfl) rfl)⟩
  · refine v_iload_n C 1 dX5_has_5 rfl ?_
    refine v_aload_n C 0 dX5_has_6 rfl ?_
    refine v_gI C 5 a 0 500 (w 500 a 0) (C_m C (u_5 a hi_a)) k_5 (by decide) rfl rfl x_168 rfl dX5_has_7 ?_
    refine v_ic_gt C 17 dX5_has_10 (by decide) (fun c_10 => ?_) (fun c_10 => ?_)
    · refine v_iconst (v := 0) C dX5_has_17 (by decide) ?_
      exact v_zret C dX5_has_18 (by decide) ⟨(by clear C; grind), (congr (congrArg Prod.mk rfl) rfl)⟩
    · refine v_iconst (v := 1) C dX5_has_13 (by decide) ?_
      refine v_goto C 18 dX5_has_14 (by decide) ?_
      exact v_zret C dX5_has_18 (by decide) ⟨(by clear C; grind), (congr (congrArg Prod.mk rfl) rfl)⟩
abbrev P_X5_clear (w : Wi) (z : Wj) (a : Nat) : WW → Prop := fun u_ => u_ = ((wS (wS (wS w 500 a (fun _ => 0)) 501 a (fun _ => 700)) 502 a (fun _ => 40)), z)
set_option maxHeartbeats 4000000 in
set_option maxRecDepth 100000 in
theorem c_X5_clear (E : En) (hE : q_ok E) (w : Wi) (z : Wj) (a : Nat) (hi_a : a < 4) : CtV M_X5_clear E [.ref (E.ad 5 a)] w z (P_X5_clear w z a) := by
  refine ctV_of (lv := [(0, .ref (E.ad 5 a))]) hE m_X5_clear (Nat.le_of_ble_eq_true rfl) rfl ?_
  intro K A C0
  have C : Cx K E A cX5_clear 1 RX5 none { frames := 0, cells := 0, slots := 0, locals := 0 } := C0
  clear C0
  refine v_aload_n C 0 dX5_clear_0 rfl ?_
  refine v_iconst (v := 0) C dX5_clear_1 (by decide) ?_
  refine v_pI C 5 a 0 500 (C_m C (u_5 a hi_a)) k_5 ty_5 (by decide) rfl ⟨rfl, rfl⟩ x_168 rfl rfl dX5_clear_2 ?_
  refine v_aload_n C 0 dX5_clear_5 rfl ?_
  refine v_sipush (v := 700) C dX5_clear_6 (by decide) ?_
  refine v_pI C 5 a 1 501 (C_m C (u_5 a hi_a)) k_5 ty_5 (by decide) rfl ⟨rfl, rfl⟩ x_175 rfl rfl dX5_clear_9 ?_
  refine v_aload_n C 0 dX5_clear_12 rfl ?_
  refine v_bipush (v := 40) C dX5_clear_13 (by decide) ?_
  refine v_pI C 5 a 2 502 (C_m C (u_5 a hi_a)) k_5 ty_5 (by decide) rfl ⟨rfl, rfl⟩ x_178 rfl rfl dX5_clear_15 ?_
  exact v_vret C dX5_clear_18 (congr (congrArg Prod.mk rfl) rfl)
abbrev P_X5_addCar (w : Wi) (z : Wj) (a : Nat) (k : Int32) (wt : Int32) : WW → Prop := fun u_ => u_ = ((wS (wS (wS (wS (wS (wS (wS (wS w 30 a (upd (w 30 a) ((w 500 a 0) + 1).toNatClampNeg k)) 31 a (upd (w 31 a) ((w 500 a 0) + 1).toNatClampNeg wt)) 32 a (upd (w 32 a) ((w 500 a 0) + 1).toNatClampNeg 0)) 33 a (upd (w 33 a) ((w 500 a 0) + 1).toNatClampNeg 0)) 34 a (upd (w 34 a) ((w 500 a 0) + 1).toNatClampNeg 0)) 35 a (upd (w 35 a) ((w 500 a 0) + 1).toNatClampNeg 100)) 36 a (upd (w 36 a) ((w 500 a 0) + 1).toNatClampNeg 0)) 500 a (fun _ => (w 500 a 0) + 1)), z)
set_option maxHeartbeats 4000000 in
set_option maxRecDepth 100000 in
theorem c_X5_addCar (E : En) (hE : q_ok E) (w : Wi) (z : Wj) (a : Nat) (hi_a : a < 4) (k : Int32) (wt : Int32) (h1 : 0 ≤ (w 500 a 0)) (h2 : (w 500 a 0) < 16) : CtV M_X5_addCar E [.ref (E.ad 5 a), .int k, .int wt] w z (P_X5_addCar w z a k wt) := by
  refine ctV_of (lv := [(0, .ref (E.ad 5 a)), (1, .int k), (2, .int wt)]) hE m_X5_addCar (Nat.le_of_ble_eq_true rfl) rfl ?_
  intro K A C0
  have C : Cx K E A cX5_addCar 3 RX5 none { frames := 0, cells := 0, slots := 0, locals := 0 } := C0
  clear C0
  refine v_aload_n C 0 dX5_addCar_0 rfl ?_
  refine v_gI C 5 a 0 500 (w 500 a 0) (C_m C (u_5 a hi_a)) k_5 (by decide) rfl rfl x_168 rfl dX5_addCar_1 ?_
  refine v_bipush (v := 16) C dX5_addCar_4 (by decide) ?_
  refine v_ic_lt C 10 dX5_addCar_6 (by decide) (fun c_6 => ?_) (fun c_6 => absurd c_6 (by clear C; grind))
  refine v_aload_n C 0 dX5_addCar_10 rfl ?_
  refine v_dup C dX5_addCar_11 rfl ?_
  refine v_gI C 5 a 0 500 (w 500 a 0) (C_m C (u_5 a hi_a)) k_5 (by decide) rfl rfl x_168 rfl dX5_addCar_12 ?_
  refine v_iconst (v := 1) C dX5_addCar_15 (by decide) ?_
  refine v_iadd C dX5_addCar_16 ?_
  refine v_pI C 5 a 0 500 (C_m C (u_5 a hi_a)) k_5 ty_5 (by decide) rfl ⟨rfl, rfl⟩ x_168 rfl rfl dX5_addCar_17 ?_
  refine v_aload_n C 0 dX5_addCar_20 rfl ?_
  refine v_gR C 5 a 3 30 a (C_m C (u_5 a hi_a)) k_5 (by decide) x_181 (fun _ _ _ => rfl) dX5_addCar_21 ?_
  refine v_aload_n C 0 dX5_addCar_24 rfl ?_
  refine v_gI C 5 a 0 500 ((w 500 a 0) + 1) (C_m C (u_5 a hi_a)) k_5 (by decide) rfl rfl x_168 (by simp only [wS_s, wS_t, wS_a, ne_eq, Nat.reduceEqDiff, not_false_eq_true]) dX5_addCar_25 ?_
  refine v_iload_n C 1 dX5_addCar_28 rfl ?_
  refine v_iast C 30 a (C_m C (u_30 a hi_a)) ⟨by decide, rfl, rfl⟩ (v_in (N := 17) (by decide) (by clear C; grind) (by clear C; grind)) dX5_addCar_29 ?_
  refine v_aload_n C 0 dX5_addCar_30 rfl ?_
  refine v_gR C 5 a 4 31 a (C_m C (u_5 a hi_a)) k_5 (by decide) x_183 (fun _ _ _ => rfl) dX5_addCar_31 ?_
  refine v_aload_n C 0 dX5_addCar_34 rfl ?_
  refine v_gI C 5 a 0 500 ((w 500 a 0) + 1) (C_m C (u_5 a hi_a)) k_5 (by decide) rfl rfl x_168 (by simp only [wS_s, wS_t, wS_a, ne_eq, Nat.reduceEqDiff, not_false_eq_true]) dX5_addCar_35 ?_
  refine v_iload_n C 2 dX5_addCar_38 rfl ?_
  refine v_iast C 31 a (C_m C (u_31 a hi_a)) ⟨by decide, rfl, rfl⟩ (v_in (N := 17) (by decide) (by clear C; grind) (by clear C; grind)) dX5_addCar_39 ?_
  refine v_aload_n C 0 dX5_addCar_40 rfl ?_
  refine v_gR C 5 a 5 32 a (C_m C (u_5 a hi_a)) k_5 (by decide) x_184 (fun _ _ _ => rfl) dX5_addCar_41 ?_
  refine v_aload_n C 0 dX5_addCar_44 rfl ?_
  refine v_gI C 5 a 0 500 ((w 500 a 0) + 1) (C_m C (u_5 a hi_a)) k_5 (by decide) rfl rfl x_168 (by simp only [wS_s, wS_t, wS_a, ne_eq, Nat.reduceEqDiff, not_false_eq_true]) dX5_addCar_45 ?_
  refine v_iconst (v := 0) C dX5_addCar_48 (by decide) ?_
  refine v_iast C 32 a (C_m C (u_32 a hi_a)) ⟨by decide, rfl, rfl⟩ (v_in (N := 17) (by decide) (by clear C; grind) (by clear C; grind)) dX5_addCar_49 ?_
  refine v_aload_n C 0 dX5_addCar_50 rfl ?_
  refine v_gR C 5 a 6 33 a (C_m C (u_5 a hi_a)) k_5 (by decide) x_188 (fun _ _ _ => rfl) dX5_addCar_51 ?_
  refine v_aload_n C 0 dX5_addCar_54 rfl ?_
  refine v_gI C 5 a 0 500 ((w 500 a 0) + 1) (C_m C (u_5 a hi_a)) k_5 (by decide) rfl rfl x_168 (by simp only [wS_s, wS_t, wS_a, ne_eq, Nat.reduceEqDiff, not_false_eq_true]) dX5_addCar_55 ?_
  refine v_iconst (v := 0) C dX5_addCar_58 (by decide) ?_
  refine v_iast C 33 a (C_m C (u_33 a hi_a)) ⟨by decide, rfl, rfl⟩ (v_in (N := 17) (by decide) (by clear C; grind) (by clear C; grind)) dX5_addCar_59 ?_
  refine v_aload_n C 0 dX5_addCar_60 rfl ?_
  refine v_gR C 5 a 7 34 a (C_m C (u_5 a hi_a)) k_5 (by decide) x_190 (fun _ _ _ => rfl) dX5_addCar_61 ?_
  refine v_aload_n C 0 dX5_addCar_64 rfl ?_
  refine v_gI C 5 a 0 500 ((w 500 a 0) + 1) (C_m C (u_5 a hi_a)) k_5 (by decide) rfl rfl x_168 (by simp only [wS_s, wS_t, wS_a, ne_eq, Nat.reduceEqDiff, not_false_eq_true]) dX5_addCar_65 ?_
  refine v_iconst (v := 0) C dX5_addCar_68 (by decide) ?_
  refine v_iast C 34 a (C_m C (u_34 a hi_a)) ⟨by decide, rfl, rfl⟩ (v_in (N := 17) (by decide) (by clear C; grind) (by clear C; grind)) dX5_addCar_69 ?_
  refine v_aload_n C 0 dX5_addCar_70 rfl ?_
  refine v_gR C 5 a 8 35 a (C_m C (u_5 a hi_a)) k_5 (by decide) x_192 (fun _ _ _ => rfl) dX5_addCar_71 ?_
  refine v_aload_n C 0 dX5_addCar_74 rfl ?_
  refine v_gI C 5 a 0 500 ((w 500 a 0) + 1) (C_m C (u_5 a hi_a)) k_5 (by decide) rfl rfl x_168 (by simp only [wS_s, wS_t, wS_a, ne_eq, Nat.reduceEqDiff, not_false_eq_true]) dX5_addCar_75 ?_
  refine v_bipush (v := 100) C dX5_addCar_78 (by decide) ?_
  refine v_iast C 35 a (C_m C (u_35 a hi_a)) ⟨by decide, rfl, rfl⟩ (v_in (N := 17) (by decide) (by clear C; grind) (by clear C; grind)) dX5_addCar_80 ?_
  refine v_aload_n C 0 dX5_addCar_81 rfl ?_
  refine v_gR C 5 a 9 36 a (C_m C (u_5 a hi_a)) k_5 (by decide) x_194 (fun _ _ _ => rfl) dX5_addCar_82 ?_
  refine v_aload_n C 0 dX5_addCar_85 rfl ?_
  refine v_gI C 5 a 0 500 ((w 500 a 0) + 1) (C_m C (u_5 a hi_a)) k_5 (by decide) rfl rfl x_168 (by simp only [wS_s, wS_t, wS_a, ne_eq, Nat.reduceEqDiff, not_false_eq_true]) dX5_addCar_86 ?_
  refine v_iconst (v := 0) C dX5_addCar_89 (by decide) ?_
  refine v_iast C 36 a (C_m C (u_36 a hi_a)) ⟨by decide, rfl, rfl⟩ (v_in (N := 17) (by decide) (by clear C; grind) (by clear C; grind)) dX5_addCar_90 ?_
  refine v_w (w2 := (wS (wS (wS (wS (wS (wS (wS (wS w 30 a (upd (w 30 a) ((w 500 a 0) + 1).toNatClampNeg k)) 31 a (upd (w 31 a) ((w 500 a 0) + 1).toNatClampNeg wt)) 32 a (upd (w 32 a) ((w 500 a 0) + 1).toNatClampNeg 0)) 33 a (upd (w 33 a) ((w 500 a 0) + 1).toNatClampNeg 0)) 34 a (upd (w 34 a) ((w 500 a 0) + 1).toNatClampNeg 0)) 35 a (upd (w 35 a) ((w 500 a 0) + 1).toNatClampNeg 100)) 36 a (upd (w 36 a) ((w 500 a 0) + 1).toNatClampNeg 0)) 500 a (fun _ => ((w 500 a 0) + 1)))) (by simp only [wS_s, wS_t, wS_a, ne_eq, Nat.reduceEqDiff, not_false_eq_true, wS_wS, wS_p, wS_pp, Nat.reduceLT, id_eq]) ?_
  exact v_vret C dX5_addCar_91 (congr (congrArg Prod.mk rfl) rfl)
abbrev P_X5_fact (w : Wi) (z : Wj) (a : Nat) (c : Int32) (wh : Int32) : Int32 → WW → Prop := fun r_ u_ => r_ = (if 1 ≤ c ∧ c ≤ (w 500 a 0) then (if wh = 0 then (w 30 a) (c).toNatClampNeg else if wh = 1 then (w 31 a) (c).toNatClampNeg else if wh = 2 then (w 32 a) (c).toNatClampNeg else if wh = 3 then (w 33 a) (c).toNatClampNeg else if wh = 4 then (w 34 a) (c).toNatClampNeg else if wh = 5 then (w 35 a) (c).toNatClampNeg else if wh = 6 then (w 36 a) (c).toNatClampNeg else (-1)) else (-1)) ∧ u_ = (w, z)
set_option maxHeartbeats 4000000 in
set_option maxRecDepth 100000 in
theorem c_X5_fact (E : En) (hE : q_ok E) (w : Wi) (z : Wj) (a : Nat) (hi_a : a < 4) (c : Int32) (wh : Int32) (h1 : (w 500 a 0) ≤ 16) : CtI M_X5_fact E [.ref (E.ad 5 a), .int c, .int wh] w z (P_X5_fact w z a c wh) := by
  refine ctI_of (lv := [(0, .ref (E.ad 5 a)), (1, .int c), (2, .int wh)]) hE m_X5_fact (Nat.le_of_ble_eq_true rfl) rfl ?_
  intro K A C0
  have C : Cx K E A cX5_fact 3 RX5 (some .int) { frames := 1, cells := 0, slots := 0, locals := 21 } := C0
  clear C0
  refine v_aload_n C 0 dX5_fact_0 rfl ?_
  refine v_iload_n C 1 dX5_fact_1 rfl ?_
  refine v_vI C 5 a [.int c] 1 (c_X5_has E hE _ _ a hi_a c  ) m_X5_has x_709 x_710 x_711 p_X5_has rfl ⟨Nat.le_of_ble_eq_true rfl, Nat.le_of_ble_eq_true rfl⟩ (C_m C (u_5 a hi_a)) k_5 rfl (Nat.le_of_ble_eq_true rfl) dX5_fact_2 (fun r1 u1 v1 hp1 => ?_)
  obtain ⟨hr1, hu1⟩ := hp1
  subst hr1
  cases hu1
  refine v_if_ne C 10 dX5_fact_5 (by decide) (fun c_5 => ?_) (fun c_5 => ?_)
  · refine v_iload_n C 2 dX5_fact_10 rfl ?_
    by_cases s_11 : (wh).toInt < 0 ∨ 6 < (wh).toInt
    · refine v_tout C 101 dX5_fact_11 s_11 (by decide) ?_
      have s_11 := swo (L := 0) (H := 6) s_11 (by decide) (by decide)
      refine v_iconst (v := (-1)) C dX5_fact_101 (by decide) ?_
      exact v_iret C dX5_fact_102 ⟨(by clear C; grind), (congr (congrArg Prod.mk rfl) rfl)⟩
    · have s_11 := sw_0_6 s_11
      rcases s_11 with s_11 | s_11 | s_11 | s_11 | s_11 | s_11 | s_11
      · refine v_i (y := 0) s_11 ?_
        refine v_tin C 41 52 dX5_fact_11 (by decide) (by decide) (by decide) (by decide) ?_
        refine v_aload_n C 0 dX5_fact_52 rfl ?_
        refine v_gR C 5 a 3 30 a (C_m C (u_5 a hi_a)) k_5 (by decide) x_181 (fun _ _ _ => rfl) dX5_fact_53 ?_
        refine v_iload_n C 1 dX5_fact_56 rfl ?_
        refine v_iald C 30 a (C_m C (u_30 a hi_a)) ⟨by decide, rfl, rfl⟩ (v_in (N := 17) (by decide) (by clear C; grind) (by clear C; grind)) dX5_fact_57 ?_
        exact v_iret C dX5_fact_58 ⟨(by clear C; grind), (congr (congrArg Prod.mk rfl) rfl)⟩
      · refine v_i (y := 1) s_11 ?_
        refine v_tin C 48 59 dX5_fact_11 (by decide) (by decide) (by decide) (by decide) ?_
        refine v_aload_n C 0 dX5_fact_59 rfl ?_
        refine v_gR C 5 a 4 31 a (C_m C (u_5 a hi_a)) k_5 (by decide) x_183 (fun _ _ _ => rfl) dX5_fact_60 ?_
        refine v_iload_n C 1 dX5_fact_63 rfl ?_
        refine v_iald C 31 a (C_m C (u_31 a hi_a)) ⟨by decide, rfl, rfl⟩ (v_in (N := 17) (by decide) (by clear C; grind) (by clear C; grind)) dX5_fact_64 ?_
        exact v_iret C dX5_fact_65 ⟨(by clear C; grind), (congr (congrArg Prod.mk rfl) rfl)⟩
      · refine v_i (y := 2) s_11 ?_
        refine v_tin C 55 66 dX5_fact_11 (by decide) (by decide) (by decide) (by decide) ?_
        refine v_aload_n C 0 dX5_fact_66 rfl ?_
        refine v_gR C 5 a 5 32 a (C_m C (u_5 a hi_a)) k_5 (by decide) x_184 (fun _ _ _ => rfl) dX5_fact_67 ?_
        refine v_iload_n C 1 dX5_fact_70 rfl ?_
        refine v_iald C 32 a (C_m C (u_32 a hi_a)) ⟨by decide, rfl, rfl⟩ (v_in (N := 17) (by decide) (by clear C; grind) (by clear C; grind)) dX5_fact_71 ?_
        exact v_iret C dX5_fact_72 ⟨(by clear C; grind), (congr (congrArg Prod.mk rfl) rfl)⟩
      · refine v_i (y := 3) s_11 ?_
        refine v_tin C 62 73 dX5_fact_11 (by decide) (by decide) (by decide) (by decide) ?_
        refine v_aload_n C 0 dX5_fact_73 rfl ?_
        refine v_gR C 5 a 6 33 a (C_m C (u_5 a hi_a)) k_5 (by decide) x_188 (fun _ _ _ => rfl) dX5_fact_74 ?_
        refine v_iload_n C 1 dX5_fact_77 rfl ?_
        refine v_iald C 33 a (C_m C (u_33 a hi_a)) ⟨by decide, rfl, rfl⟩ (v_in (N := 17) (by decide) (by clear C; grind) (by clear C; grind)) dX5_fact_78 ?_
        exact v_iret C dX5_fact_79 ⟨(by clear C; grind), (congr (congrArg Prod.mk rfl) rfl)⟩
      · refine v_i (y := 4) s_11 ?_
        refine v_tin C 69 80 dX5_fact_11 (by decide) (by decide) (by decide) (by decide) ?_
        refine v_aload_n C 0 dX5_fact_80 rfl ?_
        refine v_gR C 5 a 7 34 a (C_m C (u_5 a hi_a)) k_5 (by decide) x_190 (fun _ _ _ => rfl) dX5_fact_81 ?_
        refine v_iload_n C 1 dX5_fact_84 rfl ?_
        refine v_iald C 34 a (C_m C (u_34 a hi_a)) ⟨by decide, rfl, rfl⟩ (v_in (N := 17) (by decide) (by clear C; grind) (by clear C; grind)) dX5_fact_85 ?_
        exact v_iret C dX5_fact_86 ⟨(by clear C; grind), (congr (congrArg Prod.mk rfl) rfl)⟩
      · refine v_i (y := 5) s_11 ?_
        refine v_tin C 76 87 dX5_fact_11 (by decide) (by decide) (by decide) (by decide) ?_
        refine v_aload_n C 0 dX5_fact_87 rfl ?_
        refine v_gR C 5 a 8 35 a (C_m C (u_5 a hi_a)) k_5 (by decide) x_192 (fun _ _ _ => rfl) dX5_fact_88 ?_
        refine v_iload_n C 1 dX5_fact_91 rfl ?_
        refine v_iald C 35 a (C_m C (u_35 a hi_a)) ⟨by decide, rfl, rfl⟩ (v_in (N := 17) (by decide) (by clear C; grind) (by clear C; grind)) dX5_fact_92 ?_
        exact v_iret C dX5_fact_93 ⟨(by clear C; grind), (congr (congrArg Prod.mk rfl) rfl)⟩
      · refine v_i (y := 6) s_11 ?_
        refine v_tin C 83 94 dX5_fact_11 (by decide) (by decide) (by decide) (by decide) ?_
        refine v_aload_n C 0 dX5_fact_94 rfl ?_
        refine v_gR C 5 a 9 36 a (C_m C (u_5 a hi_a)) k_5 (by decide) x_194 (fun _ _ _ => rfl) dX5_fact_95 ?_
        refine v_iload_n C 1 dX5_fact_98 rfl ?_
        refine v_iald C 36 a (C_m C (u_36 a hi_a)) ⟨by decide, rfl, rfl⟩ (v_in (N := 17) (by decide) (by clear C; grind) (by clear C; grind)) dX5_fact_99 ?_
        exact v_iret C dX5_fact_100 ⟨(by clear C; grind), (congr (congrArg Prod.mk rfl) rfl)⟩
  · refine v_iconst (v := (-1)) C dX5_fact_8 (by decide) ?_
    exact v_iret C dX5_fact_9 ⟨(by clear C; grind), (congr (congrArg Prod.mk rfl) rfl)⟩
abbrev P_X5_setFact (w : Wi) (z : Wj) (a : Nat) (c : Int32) (wh : Int32) (x : Int32) : WW → Prop := fun u_ => u_ = ((wS (wS (wS (wS (wS w 32 a (if (1 ≤ c ∧ c ≤ (w 500 a 0)) ∧ wh = 2 then upd (w 32 a) (c).toNatClampNeg x else (w 32 a))) 33 a (if (1 ≤ c ∧ c ≤ (w 500 a 0)) ∧ wh = 3 then upd (w 33 a) (c).toNatClampNeg x else (w 33 a))) 34 a (if (1 ≤ c ∧ c ≤ (w 500 a 0)) ∧ wh = 4 then upd (w 34 a) (c).toNatClampNeg x else (w 34 a))) 35 a (if (1 ≤ c ∧ c ≤ (w 500 a 0)) ∧ wh = 5 then upd (w 35 a) (c).toNatClampNeg x else (w 35 a))) 36 a (if (1 ≤ c ∧ c ≤ (w 500 a 0)) ∧ wh = 6 then upd (w 36 a) (c).toNatClampNeg x else (w 36 a))), z)
set_option maxHeartbeats 4000000 in
set_option maxRecDepth 100000 in
theorem c_X5_setFact (E : En) (hE : q_ok E) (w : Wi) (z : Wj) (a : Nat) (hi_a : a < 4) (c : Int32) (wh : Int32) (x : Int32) (h1 : (w 500 a 0) ≤ 16) : CtV M_X5_setFact E [.ref (E.ad 5 a), .int c, .int wh, .int x] w z (P_X5_setFact w z a c wh x) := by
  refine ctV_of (lv := [(0, .ref (E.ad 5 a)), (1, .int c), (2, .int wh), (3, .int x)]) hE m_X5_setFact (Nat.le_of_ble_eq_true rfl) rfl ?_
  intro K A C0
  have C : Cx K E A cX5_setFact 4 RX5 none { frames := 1, cells := 0, slots := 0, locals := 21 } := C0
  clear C0
  refine v_aload_n C 0 dX5_setFact_0 rfl ?_
  refine v_iload_n C 1 dX5_setFact_1 rfl ?_
  refine v_vI C 5 a [.int c] 1 (c_X5_has E hE _ _ a hi_a c  ) m_X5_has x_709 x_710 x_711 p_X5_has rfl ⟨Nat.le_of_ble_eq_true rfl, Nat.le_of_ble_eq_true rfl⟩ (C_m C (u_5 a hi_a)) k_5 rfl (Nat.le_of_ble_eq_true rfl) dX5_setFact_2 (fun r1 u1 v1 hp1 => ?_)
  obtain ⟨hr1, hu1⟩ := hp1
  subst hr1
  cases hu1
  refine v_if_ne C 9 dX5_setFact_5 (by decide) (fun c_5 => ?_) (fun c_5 => ?_)
  · refine v_iload_n C 2 dX5_setFact_9 rfl ?_
    by_cases s_10 : (wh).toInt < 2 ∨ 6 < (wh).toInt
    · refine v_tout C 94 dX5_setFact_10 s_10 (by decide) ?_
      have s_10 := swo (L := 2) (H := 6) s_10 (by decide) (by decide)
      refine v_w (wS_id _ 32 a).symm ?_
      refine v_w (wS_id _ 33 a).symm ?_
      refine v_w (wS_id _ 34 a).symm ?_
      refine v_w (wS_id _ 35 a).symm ?_
      refine v_w (wS_id _ 36 a).symm ?_
      refine v_w (w2 := (wS (wS (wS (wS (wS w 32 a (w 32 a)) 33 a (w 33 a)) 34 a (w 34 a)) 35 a (w 35 a)) 36 a (w 36 a))) (by simp only [wS_s, wS_t, wS_a, ne_eq, Nat.reduceEqDiff, not_false_eq_true, wS_wS, wS_p, wS_pp, Nat.reduceLT, id_eq]) ?_
      exact v_vret C dX5_setFact_94 (congr (congrArg Prod.mk (wS_eq (wS_eq (wS_eq (wS_eq (wS_eq rfl (by clear C; grind)) (by clear C; grind)) (by clear C; grind)) (by clear C; grind)) (by clear C; grind))) rfl)
    · have s_10 := sw_2_6 s_10
      rcases s_10 with s_10 | s_10 | s_10 | s_10 | s_10
      · refine v_i (y := 2) s_10 ?_
        refine v_tin C 34 44 dX5_setFact_10 (by decide) (by decide) (by decide) (by decide) ?_
        refine v_aload_n C 0 dX5_setFact_44 rfl ?_
        refine v_gR C 5 a 5 32 a (C_m C (u_5 a hi_a)) k_5 (by decide) x_184 (fun _ _ _ => rfl) dX5_setFact_45 ?_
        refine v_iload_n C 1 dX5_setFact_48 rfl ?_
        refine v_iload_n C 3 dX5_setFact_49 rfl ?_
        refine v_iast C 32 a (C_m C (u_32 a hi_a)) ⟨by decide, rfl, rfl⟩ (v_in (N := 17) (by decide) (by clear C; grind) (by clear C; grind)) dX5_setFact_50 ?_
        refine v_goto C 94 dX5_setFact_51 (by decide) ?_
        refine v_w (wS_id _ 33 a).symm ?_
        refine v_w (wS_id _ 34 a).symm ?_
        refine v_w (wS_id _ 35 a).symm ?_
        refine v_w (wS_id _ 36 a).symm ?_
        refine v_w (w2 := (wS (wS (wS (wS (wS w 32 a (upd (w 32 a) c.toNatClampNeg x)) 33 a (w 33 a)) 34 a (w 34 a)) 35 a (w 35 a)) 36 a (w 36 a))) (by simp only [wS_s, wS_t, wS_a, ne_eq, Nat.reduceEqDiff, not_false_eq_true, wS_wS, wS_p, wS_pp, Nat.reduceLT, id_eq]) ?_
        exact v_vret C dX5_setFact_94 (congr (congrArg Prod.mk (wS_eq (wS_eq (wS_eq (wS_eq (wS_eq rfl (by clear C; grind)) (by clear C; grind)) (by clear C; grind)) (by clear C; grind)) (by clear C; grind))) rfl)
      · refine v_i (y := 3) s_10 ?_
        refine v_tin C 44 54 dX5_setFact_10 (by decide) (by decide) (by decide) (by decide) ?_
        refine v_aload_n C 0 dX5_setFact_54 rfl ?_
        refine v_gR C 5 a 6 33 a (C_m C (u_5 a hi_a)) k_5 (by decide) x_188 (fun _ _ _ => rfl) dX5_setFact_55 ?_
        refine v_iload_n C 1 dX5_setFact_58 rfl ?_
        refine v_iload_n C 3 dX5_setFact_59 rfl ?_
        refine v_iast C 33 a (C_m C (u_33 a hi_a)) ⟨by decide, rfl, rfl⟩ (v_in (N := 17) (by decide) (by clear C; grind) (by clear C; grind)) dX5_setFact_60 ?_
        refine v_goto C 94 dX5_setFact_61 (by decide) ?_
        refine v_w (wS_id _ 32 a).symm ?_
        refine v_w (wS_id _ 34 a).symm ?_
        refine v_w (wS_id _ 35 a).symm ?_
        refine v_w (wS_id _ 36 a).symm ?_
        refine v_w (w2 := (wS (wS (wS (wS (wS w 32 a (w 32 a)) 33 a (upd (w 33 a) c.toNatClampNeg x)) 34 a (w 34 a)) 35 a (w 35 a)) 36 a (w 36 a))) (by simp only [wS_s, wS_t, wS_a, ne_eq, Nat.reduceEqDiff, not_false_eq_true, wS_wS, wS_p, wS_pp, Nat.reduceLT, id_eq]) ?_
        exact v_vret C dX5_setFact_94 (congr (congrArg Prod.mk (wS_eq (wS_eq (wS_eq (wS_eq (wS_eq rfl (by clear C; grind)) (by clear C; grind)) (by clear C; grind)) (by clear C; grind)) (by clear C; grind))) rfl)
      · refine v_i (y := 4) s_10 ?_
        refine v_tin C 54 64 dX5_setFact_10 (by decide) (by decide) (by decide) (by decide) ?_
        refine v_aload_n C 0 dX5_setFact_64 rfl ?_
        refine v_gR C 5 a 7 34 a (C_m C (u_5 a hi_a)) k_5 (by decide) x_190 (fun _ _ _ => rfl) dX5_setFact_65 ?_
        refine v_iload_n C 1 dX5_setFact_68 rfl ?_
        refine v_iload_n C 3 dX5_setFact_69 rfl ?_
        refine v_iast C 34 a (C_m C (u_34 a hi_a)) ⟨by decide, rfl, rfl⟩ (v_in (N := 17) (by decide) (by clear C; grind) (by clear C; grind)) dX5_setFact_70 ?_
        refine v_goto C 94 dX5_setFact_71 (by decide) ?_
        refine v_w (wS_id _ 32 a).symm ?_
        refine v_w (wS_id _ 33 a).symm ?_
        refine v_w (wS_id _ 35 a).symm ?_
        refine v_w (wS_id _ 36 a).symm ?_
        refine v_w (w2 := (wS (wS (wS (wS (wS w 32 a (w 32 a)) 33 a (w 33 a)) 34 a (upd (w 34 a) c.toNatClampNeg x)) 35 a (w 35 a)) 36 a (w 36 a))) (by simp only [wS_s, wS_t, wS_a, ne_eq, Nat.reduceEqDiff, not_false_eq_true, wS_wS, wS_p, wS_pp, Nat.reduceLT, id_eq]) ?_
        exact v_vret C dX5_setFact_94 (congr (congrArg Prod.mk (wS_eq (wS_eq (wS_eq (wS_eq (wS_eq rfl (by clear C; grind)) (by clear C; grind)) (by clear C; grind)) (by clear C; grind)) (by clear C; grind))) rfl)
      · refine v_i (y := 5) s_10 ?_
        refine v_tin C 64 74 dX5_setFact_10 (by decide) (by decide) (by decide) (by decide) ?_
        refine v_aload_n C 0 dX5_setFact_74 rfl ?_
        refine v_gR C 5 a 8 35 a (C_m C (u_5 a hi_a)) k_5 (by decide) x_192 (fun _ _ _ => rfl) dX5_setFact_75 ?_
        refine v_iload_n C 1 dX5_setFact_78 rfl ?_
        refine v_iload_n C 3 dX5_setFact_79 rfl ?_
        refine v_iast C 35 a (C_m C (u_35 a hi_a)) ⟨by decide, rfl, rfl⟩ (v_in (N := 17) (by decide) (by clear C; grind) (by clear C; grind)) dX5_setFact_80 ?_
        refine v_goto C 94 dX5_setFact_81 (by decide) ?_
        refine v_w (wS_id _ 32 a).symm ?_
        refine v_w (wS_id _ 33 a).symm ?_
        refine v_w (wS_id _ 34 a).symm ?_
        refine v_w (wS_id _ 36 a).symm ?_
        refine v_w (w2 := (wS (wS (wS (wS (wS w 32 a (w 32 a)) 33 a (w 33 a)) 34 a (w 34 a)) 35 a (upd (w 35 a) c.toNatClampNeg x)) 36 a (w 36 a))) (by simp only [wS_s, wS_t, wS_a, ne_eq, Nat.reduceEqDiff, not_false_eq_true, wS_wS, wS_p, wS_pp, Nat.reduceLT, id_eq]) ?_
        exact v_vret C dX5_setFact_94 (congr (congrArg Prod.mk (wS_eq (wS_eq (wS_eq (wS_eq (wS_eq rfl (by clear C; grind)) (by clear C; grind)) (by clear C; grind)) (by clear C; grind)) (by clear C; grind))) rfl)
      · refine v_i (y := 6) s_10 ?_
        refine v_tin C 74 84 dX5_setFact_10 (by decide) (by decide) (by decide) (by decide) ?_
        refine v_aload_n C 0 dX5_setFact_84 rfl ?_
        refine v_gR C 5 a 9 36 a (C_m C (u_5 a hi_a)) k_5 (by decide) x_194 (fun _ _ _ => rfl) dX5_setFact_85 ?_
        refine v_iload_n C 1 dX5_setFact_88 rfl ?_
        refine v_iload_n C 3 dX5_setFact_89 rfl ?_
        refine v_iast C 36 a (C_m C (u_36 a hi_a)) ⟨by decide, rfl, rfl⟩ (v_in (N := 17) (by decide) (by clear C; grind) (by clear C; grind)) dX5_setFact_90 ?_
        refine v_goto C 94 dX5_setFact_91 (by decide) ?_
        refine v_w (wS_id _ 32 a).symm ?_
        refine v_w (wS_id _ 33 a).symm ?_
        refine v_w (wS_id _ 34 a).symm ?_
        refine v_w (wS_id _ 35 a).symm ?_
        refine v_w (w2 := (wS (wS (wS (wS (wS w 32 a (w 32 a)) 33 a (w 33 a)) 34 a (w 34 a)) 35 a (w 35 a)) 36 a (upd (w 36 a) c.toNatClampNeg x))) (by simp only [wS_s, wS_t, wS_a, ne_eq, Nat.reduceEqDiff, not_false_eq_true, wS_wS, wS_p, wS_pp, Nat.reduceLT, id_eq]) ?_
        exact v_vret C dX5_setFact_94 (congr (congrArg Prod.mk (wS_eq (wS_eq (wS_eq (wS_eq (wS_eq rfl (by clear C; grind)) (by clear C; grind)) (by clear C; grind)) (by clear C; grind)) (by clear C; grind))) rfl)
  · refine v_w (wS_id _ 32 a).symm ?_
    refine v_w (wS_id _ 33 a).symm ?_
    refine v_w (wS_id _ 34 a).symm ?_
    refine v_w (wS_id _ 35 a).symm ?_
    refine v_w (wS_id _ 36 a).symm ?_
    refine v_w (w2 := (wS (wS (wS (wS (wS w 32 a (w 32 a)) 33 a (w 33 a)) 34 a (w 34 a)) 35 a (w 35 a)) 36 a (w 36 a))) (by simp only [wS_s, wS_t, wS_a, ne_eq, Nat.reduceEqDiff, not_false_eq_true, wS_wS, wS_p, wS_pp, Nat.reduceLT, id_eq]) ?_
    exact v_vret C dX5_setFact_8 (congr (congrArg Prod.mk (wS_eq (wS_eq (wS_eq (wS_eq (wS_eq rfl (by clear C; grind)) (by clear C; grind)) (by clear C; grind)) (by clear C; grind)) (by clear C; grind))) rfl)
abbrev P_X5_takeCar (w : Wi) (z : Wj) (a : Nat) (b : Nat) (c : Int32) (y : Int32) : WW → Prop := fun u_ => u_ = ((wS (wS (wS (wS (wS (wS (wS w 30 a (if (1 ≤ c ∧ c ≤ (w 500 a 0)) ∧ (1 ≤ y ∧ y ≤ (w 500 b 0)) then upd (w 30 a) (c).toNatClampNeg ((w 30 b) (y).toNatClampNeg) else (w 30 a))) 31 a (if (1 ≤ c ∧ c ≤ (w 500 a 0)) ∧ (1 ≤ y ∧ y ≤ (w 500 b 0)) then upd (w 31 a) (c).toNatClampNeg ((w 31 b) (y).toNatClampNeg) else (w 31 a))) 32 a (if (1 ≤ c ∧ c ≤ (w 500 a 0)) ∧ (1 ≤ y ∧ y ≤ (w 500 b 0)) then upd (w 32 a) (c).toNatClampNeg ((w 32 b) (y).toNatClampNeg) else (w 32 a))) 33 a (if (1 ≤ c ∧ c ≤ (w 500 a 0)) ∧ (1 ≤ y ∧ y ≤ (w 500 b 0)) then upd (w 33 a) (c).toNatClampNeg ((w 33 b) (y).toNatClampNeg) else (w 33 a))) 34 a (if (1 ≤ c ∧ c ≤ (w 500 a 0)) ∧ (1 ≤ y ∧ y ≤ (w 500 b 0)) then upd (w 34 a) (c).toNatClampNeg ((w 34 b) (y).toNatClampNeg) else (w 34 a))) 35 a (if (1 ≤ c ∧ c ≤ (w 500 a 0)) ∧ (1 ≤ y ∧ y ≤ (w 500 b 0)) then upd (w 35 a) (c).toNatClampNeg ((w 35 b) (y).toNatClampNeg) else (w 35 a))) 36 a (if (1 ≤ c ∧ c ≤ (w 500 a 0)) ∧ (1 ≤ y ∧ y ≤ (w 500 b 0)) then upd (w 36 a) (c).toNatClampNeg ((w 36 b) (y).toNatClampNeg) else (w 36 a))), z)
set_option maxHeartbeats 4000000 in
set_option maxRecDepth 100000 in
theorem c_X5_takeCar (E : En) (hE : q_ok E) (w : Wi) (z : Wj) (a : Nat) (hi_a : a < 4) (b : Nat) (hi_b : b < 4) (c : Int32) (y : Int32) (h1 : (w 500 a 0) ≤ 16) (h2 : (w 500 b 0) ≤ 16) : CtV M_X5_takeCar E [.ref (E.ad 5 a), .int c, .ref (E.ad 5 b), .int y] w z (P_X5_takeCar w z a b c y) := by
  refine ctV_of (lv := [(0, .ref (E.ad 5 a)), (1, .int c), (2, .ref (E.ad 5 b)), (3, .int y)]) hE m_X5_takeCar (Nat.le_of_ble_eq_true rfl) rfl ?_
  intro K A C0
  have C : Cx K E A cX5_takeCar 4 RX5 none { frames := 1, cells := 0, slots := 0, locals := 21 } := C0
  clear C0
  refine v_aload_n C 0 dX5_takeCar_0 rfl ?_
  refine v_iload_n C 1 dX5_takeCar_1 rfl ?_
  refine v_vI C 5 a [.int c] 1 (c_X5_has E hE _ _ a hi_a c  ) m_X5_has x_709 x_710 x_711 p_X5_has rfl ⟨Nat.le_of_ble_eq_true rfl, Nat.le_of_ble_eq_true rfl⟩ (C_m C (u_5 a hi_a)) k_5 rfl (Nat.le_of_ble_eq_true rfl) dX5_takeCar_2 (fun r1 u1 v1 hp1 => ?_)
  obtain ⟨hr1, hu1⟩ := hp1
  subst hr1
  cases hu1
  refine v_if_eq C 16 dX5_takeCar_5 (by decide) (fun c_5 => ?_) (fun c_5 => ?_)
  · refine v_w (wS_id _ 30 a).symm ?_
    refine v_w (wS_id _ 31 a).symm ?_
    refine v_w (wS_id _ 32 a).symm ?_
    refine v_w (wS_id _ 33 a).symm ?_
    refine v_w (wS_id _ 34 a).symm ?_
    refine v_w (wS_id _ 35 a).symm ?_
    refine v_w (wS_id _ 36 a).symm ?_
    refine v_w (w2 := (wS (wS (wS (wS (wS (wS (wS w 30 a (w 30 a)) 31 a (w 31 a)) 32 a (w 32 a)) 33 a (w 33 a)) 34 a (w 34 a)) 35 a (w 35 a)) 36 a (w 36 a))) (by simp only [wS_s, wS_t, wS_a, ne_eq, Nat.reduceEqDiff, not_false_eq_true, wS_wS, wS_p, wS_pp, Nat.reduceLT, id_eq]) ?_
    exact v_vret C dX5_takeCar_16 (congr (congrArg Prod.mk (wS_eq (wS_eq (wS_eq (wS_eq (wS_eq (wS_eq (wS_eq rfl (by clear C; grind)) (by clear C; grind)) (by clear C; grind)) (by clear C; grind)) (by clear C; grind)) (by clear C; grind)) (by clear C; grind))) rfl)
  · refine v_aload_n C 2 dX5_takeCar_8 rfl ?_
    refine v_iload_n C 3 dX5_takeCar_9 rfl ?_
    refine v_vI C 5 b [.int y] 1 (c_X5_has E hE _ _ b hi_b y  ) m_X5_has x_709 x_710 x_711 p_X5_has rfl ⟨Nat.le_of_ble_eq_true rfl, Nat.le_of_ble_eq_true rfl⟩ (C_m C (u_5 b hi_b)) k_5 rfl (Nat.le_of_ble_eq_true rfl) dX5_takeCar_10 (fun r2 u2 v2 hp2 => ?_)
    obtain ⟨hr2, hu2⟩ := hp2
    subst hr2
    cases hu2
    refine v_if_ne C 17 dX5_takeCar_13 (by decide) (fun c_13 => ?_) (fun c_13 => ?_)
    · refine v_aload_n C 0 dX5_takeCar_17 rfl ?_
      refine v_gR C 5 a 3 30 a (C_m C (u_5 a hi_a)) k_5 (by decide) x_181 (fun _ _ _ => rfl) dX5_takeCar_18 ?_
      refine v_iload_n C 1 dX5_takeCar_21 rfl ?_
      refine v_aload_n C 2 dX5_takeCar_22 rfl ?_
      refine v_gR C 5 b 3 30 b (C_m C (u_5 b hi_b)) k_5 (by decide) x_181 (fun _ _ _ => rfl) dX5_takeCar_23 ?_
      refine v_iload_n C 3 dX5_takeCar_26 rfl ?_
      refine v_iald C 30 b (C_m C (u_30 b hi_b)) ⟨by decide, rfl, rfl⟩ (v_in (N := 17) (by decide) (by clear C; grind) (by clear C; grind)) dX5_takeCar_27 ?_
      refine v_iast C 30 a (C_m C (u_30 a hi_a)) ⟨by decide, rfl, rfl⟩ (v_in (N := 17) (by decide) (by clear C; grind) (by clear C; grind)) dX5_takeCar_28 ?_
      refine v_aload_n C 0 dX5_takeCar_29 rfl ?_
      refine v_gR C 5 a 4 31 a (C_m C (u_5 a hi_a)) k_5 (by decide) x_183 (fun _ _ _ => rfl) dX5_takeCar_30 ?_
      refine v_iload_n C 1 dX5_takeCar_33 rfl ?_
      refine v_aload_n C 2 dX5_takeCar_34 rfl ?_
      refine v_gR C 5 b 4 31 b (C_m C (u_5 b hi_b)) k_5 (by decide) x_183 (fun _ _ _ => rfl) dX5_takeCar_35 ?_
      refine v_iload_n C 3 dX5_takeCar_38 rfl ?_
      refine v_iald C 31 b (C_m C (u_31 b hi_b)) ⟨by decide, rfl, rfl⟩ (v_in (N := 17) (by decide) (by clear C; grind) (by clear C; grind)) dX5_takeCar_39 ?_
      refine v_i (y := ((w 31 b) y.toNatClampNeg)) (by simp only [wS_s, wS_t, wS_a, ne_eq, Nat.reduceEqDiff, not_false_eq_true]) ?_
      refine v_iast C 31 a (C_m C (u_31 a hi_a)) ⟨by decide, rfl, rfl⟩ (v_in (N := 17) (by decide) (by clear C; grind) (by clear C; grind)) dX5_takeCar_40 ?_
      refine v_aload_n C 0 dX5_takeCar_41 rfl ?_
      refine v_gR C 5 a 5 32 a (C_m C (u_5 a hi_a)) k_5 (by decide) x_184 (fun _ _ _ => rfl) dX5_takeCar_42 ?_
      refine v_iload_n C 1 dX5_takeCar_45 rfl ?_
      refine v_aload_n C 2 dX5_takeCar_46 rfl ?_
      refine v_gR C 5 b 5 32 b (C_m C (u_5 b hi_b)) k_5 (by decide) x_184 (fun _ _ _ => rfl) dX5_takeCar_47 ?_
      refine v_iload_n C 3 dX5_takeCar_50 rfl ?_
      refine v_iald C 32 b (C_m C (u_32 b hi_b)) ⟨by decide, rfl, rfl⟩ (v_in (N := 17) (by decide) (by clear C; grind) (by clear C; grind)) dX5_takeCar_51 ?_
      refine v_i (y := ((w 32 b) y.toNatClampNeg)) (by simp only [wS_s, wS_t, wS_a, ne_eq, Nat.reduceEqDiff, not_false_eq_true]) ?_
      refine v_iast C 32 a (C_m C (u_32 a hi_a)) ⟨by decide, rfl, rfl⟩ (v_in (N := 17) (by decide) (by clear C; grind) (by clear C; grind)) dX5_takeCar_52 ?_
      refine v_aload_n C 0 dX5_takeCar_53 rfl ?_
      refine v_gR C 5 a 6 33 a (C_m C (u_5 a hi_a)) k_5 (by decide) x_188 (fun _ _ _ => rfl) dX5_takeCar_54 ?_
      refine v_iload_n C 1 dX5_takeCar_57 rfl ?_
      refine v_aload_n C 2 dX5_takeCar_58 rfl ?_
      refine v_gR C 5 b 6 33 b (C_m C (u_5 b hi_b)) k_5 (by decide) x_188 (fun _ _ _ => rfl) dX5_takeCar_59 ?_
      refine v_iload_n C 3 dX5_takeCar_62 rfl ?_
      refine v_iald C 33 b (C_m C (u_33 b hi_b)) ⟨by decide, rfl, rfl⟩ (v_in (N := 17) (by decide) (by clear C; grind) (by clear C; grind)) dX5_takeCar_63 ?_
      refine v_i (y := ((w 33 b) y.toNatClampNeg)) (by simp only [wS_s, wS_t, wS_a, ne_eq, Nat.reduceEqDiff, not_false_eq_true]) ?_
      refine v_iast C 33 a (C_m C (u_33 a hi_a)) ⟨by decide, rfl, rfl⟩ (v_in (N := 17) (by decide) (by clear C; grind) (by clear C; grind)) dX5_takeCar_64 ?_
      refine v_aload_n C 0 dX5_takeCar_65 rfl ?_
      refine v_gR C 5 a 7 34 a (C_m C (u_5 a hi_a)) k_5 (by decide) x_190 (fun _ _ _ => rfl) dX5_takeCar_66 ?_
      refine v_iload_n C 1 dX5_takeCar_69 rfl ?_
      refine v_aload_n C 2 dX5_takeCar_70 rfl ?_
      refine v_gR C 5 b 7 34 b (C_m C (u_5 b hi_b)) k_5 (by decide) x_190 (fun _ _ _ => rfl) dX5_takeCar_71 ?_
      refine v_iload_n C 3 dX5_takeCar_74 rfl ?_
      refine v_iald C 34 b (C_m C (u_34 b hi_b)) ⟨by decide, rfl, rfl⟩ (v_in (N := 17) (by decide) (by clear C; grind) (by clear C; grind)) dX5_takeCar_75 ?_
      refine v_i (y := ((w 34 b) y.toNatClampNeg)) (by simp only [wS_s, wS_t, wS_a, ne_eq, Nat.reduceEqDiff, not_false_eq_true]) ?_
      refine v_iast C 34 a (C_m C (u_34 a hi_a)) ⟨by decide, rfl, rfl⟩ (v_in (N := 17) (by decide) (by clear C; grind) (by clear C; grind)) dX5_takeCar_76 ?_
      refine v_aload_n C 0 dX5_takeCar_77 rfl ?_
      refine v_gR C 5 a 8 35 a (C_m C (u_5 a hi_a)) k_5 (by decide) x_192 (fun _ _ _ => rfl) dX5_takeCar_78 ?_
      refine v_iload_n C 1 dX5_takeCar_81 rfl ?_
      refine v_aload_n C 2 dX5_takeCar_82 rfl ?_
      refine v_gR C 5 b 8 35 b (C_m C (u_5 b hi_b)) k_5 (by decide) x_192 (fun _ _ _ => rfl) dX5_takeCar_83 ?_
      refine v_iload_n C 3 dX5_takeCar_86 rfl ?_
      refine v_iald C 35 b (C_m C (u_35 b hi_b)) ⟨by decide, rfl, rfl⟩ (v_in (N := 17) (by decide) (by clear C; grind) (by clear C; grind)) dX5_takeCar_87 ?_
      refine v_i (y := ((w 35 b) y.toNatClampNeg)) (by simp only [wS_s, wS_t, wS_a, ne_eq, Nat.reduceEqDiff, not_false_eq_true]) ?_
      refine v_iast C 35 a (C_m C (u_35 a hi_a)) ⟨by decide, rfl, rfl⟩ (v_in (N := 17) (by decide) (by clear C; grind) (by clear C; grind)) dX5_takeCar_88 ?_
      refine v_aload_n C 0 dX5_takeCar_89 rfl ?_
      refine v_gR C 5 a 9 36 a (C_m C (u_5 a hi_a)) k_5 (by decide) x_194 (fun _ _ _ => rfl) dX5_takeCar_90 ?_
      refine v_iload_n C 1 dX5_takeCar_93 rfl ?_
      refine v_aload_n C 2 dX5_takeCar_94 rfl ?_
      refine v_gR C 5 b 9 36 b (C_m C (u_5 b hi_b)) k_5 (by decide) x_194 (fun _ _ _ => rfl) dX5_takeCar_95 ?_
      refine v_iload_n C 3 dX5_takeCar_98 rfl ?_
      refine v_iald C 36 b (C_m C (u_36 b hi_b)) ⟨by decide, rfl, rfl⟩ (v_in (N := 17) (by decide) (by clear C; grind) (by clear C; grind)) dX5_takeCar_99 ?_
      refine v_i (y := ((w 36 b) y.toNatClampNeg)) (by simp only [wS_s, wS_t, wS_a, ne_eq, Nat.reduceEqDiff, not_false_eq_true]) ?_
      refine v_iast C 36 a (C_m C (u_36 a hi_a)) ⟨by decide, rfl, rfl⟩ (v_in (N := 17) (by decide) (by clear C; grind) (by clear C; grind)) dX5_takeCar_100 ?_
      refine v_w (w2 := (wS (wS (wS (wS (wS (wS (wS w 30 a (upd (w 30 a) c.toNatClampNeg ((w 30 b) y.toNatClampNeg))) 31 a (upd (w 31 a) c.toNatClampNeg ((w 31 b) y.toNatClampNeg))) 32 a (upd (w 32 a) c.toNatClampNeg ((w 32 b) y.toNatClampNeg))) 33 a (upd (w 33 a) c.toNatClampNeg ((w 33 b) y.toNatClampNeg))) 34 a (upd (w 34 a) c.toNatClampNeg ((w 34 b) y.toNatClampNeg))) 35 a (upd (w 35 a) c.toNatClampNeg ((w 35 b) y.toNatClampNeg))) 36 a (upd (w 36 a) c.toNatClampNeg ((w 36 b) y.toNatClampNeg)))) (by simp only [wS_s, wS_t, wS_a, ne_eq, Nat.reduceEqDiff, not_false_eq_true, wS_wS, wS_p, wS_pp, Nat.reduceLT, id_eq]) ?_
      exact v_vret C dX5_takeCar_101 (congr (congrArg Prod.mk (wS_eq (wS_eq (wS_eq (wS_eq (wS_eq (wS_eq (wS_eq rfl (by clear C; grind)) (by clear C; grind)) (by clear C; grind)) (by clear C; grind)) (by clear C; grind)) (by clear C; grind)) (by clear C; grind))) rfl)
    · refine v_w (wS_id _ 30 a).symm ?_
      refine v_w (wS_id _ 31 a).symm ?_
      refine v_w (wS_id _ 32 a).symm ?_
      refine v_w (wS_id _ 33 a).symm ?_
      refine v_w (wS_id _ 34 a).symm ?_
      refine v_w (wS_id _ 35 a).symm ?_
      refine v_w (wS_id _ 36 a).symm ?_
      refine v_w (w2 := (wS (wS (wS (wS (wS (wS (wS w 30 a (w 30 a)) 31 a (w 31 a)) 32 a (w 32 a)) 33 a (w 33 a)) 34 a (w 34 a)) 35 a (w 35 a)) 36 a (w 36 a))) (by simp only [wS_s, wS_t, wS_a, ne_eq, Nat.reduceEqDiff, not_false_eq_true, wS_wS, wS_p, wS_pp, Nat.reduceLT, id_eq]) ?_
      exact v_vret C dX5_takeCar_16 (congr (congrArg Prod.mk (wS_eq (wS_eq (wS_eq (wS_eq (wS_eq (wS_eq (wS_eq rfl (by clear C; grind)) (by clear C; grind)) (by clear C; grind)) (by clear C; grind)) (by clear C; grind)) (by clear C; grind)) (by clear C; grind))) rfl)
abbrev P_X5_copyFrom (w : Wi) (z : Wj) (a : Nat) (b : Nat) (hab : b ≠ a) : WW → Prop := fun u_ => u_ = ((wS (wS (wS (wS (wS (wS (wS (wS (wS (wS w 30 a (cpR (w 30 a) (w 30 b) ((w 500 b 0) + 1).toNatClampNeg)) 31 a (cpR (w 31 a) (w 31 b) ((w 500 b 0) + 1).toNatClampNeg)) 32 a (cpR (w 32 a) (w 32 b) ((w 500 b 0) + 1).toNatClampNeg)) 33 a (cpR (w 33 a) (w 33 b) ((w 500 b 0) + 1).toNatClampNeg)) 34 a (cpR (w 34 a) (w 34 b) ((w 500 b 0) + 1).toNatClampNeg)) 35 a (cpR (w 35 a) (w 35 b) ((w 500 b 0) + 1).toNatClampNeg)) 36 a (cpR (w 36 a) (w 36 b) ((w 500 b 0) + 1).toNatClampNeg)) 500 a (fun _ => (w 500 b 0))) 501 a (fun _ => (w 501 b 0))) 502 a (fun _ => (w 502 b 0))), z)
set_option maxHeartbeats 4000000 in
set_option maxRecDepth 100000 in
theorem c_X5_copyFrom (E : En) (hE : q_ok E) (w : Wi) (z : Wj) (a : Nat) (hi_a : a < 4) (b : Nat) (hi_b : b < 4) (hab : b ≠ a) (h1 : 0 ≤ (w 500 b 0)) (h2 : (w 500 b 0) ≤ 16) : CtV M_X5_copyFrom E [.ref (E.ad 5 a), .ref (E.ad 5 b)] w z (P_X5_copyFrom w z a b hab) := by
  refine ctV_of (lv := [(0, .ref (E.ad 5 a)), (1, .ref (E.ad 5 b))]) hE m_X5_copyFrom (Nat.le_of_ble_eq_true rfl) rfl ?_
  intro K A C0
  have C : Cx K E A cX5_copyFrom 3 RX5 none { frames := 2, cells := 0, slots := 0, locals := 44 } := C0
  clear C0
  refine v_aload_n C 0 dX5_copyFrom_0 rfl ?_
  refine v_aload_n C 1 dX5_copyFrom_1 rfl ?_
  refine v_gI C 5 b 0 500 (w 500 b 0) (C_m C (u_5 b hi_b)) k_5 (by decide) rfl rfl x_168 rfl dX5_copyFrom_2 ?_
  refine v_pI C 5 a 0 500 (C_m C (u_5 a hi_a)) k_5 ty_5 (by decide) rfl ⟨rfl, rfl⟩ x_168 rfl rfl dX5_copyFrom_5 ?_
  refine v_aload_n C 0 dX5_copyFrom_8 rfl ?_
  refine v_aload_n C 1 dX5_copyFrom_9 rfl ?_
  refine v_gI C 5 b 1 501 (w 501 b 0) (C_m C (u_5 b hi_b)) k_5 (by decide) rfl rfl x_175 (by simp only [wS_s, wS_t, wS_a, ne_eq, Nat.reduceEqDiff, not_false_eq_true, hab]) dX5_copyFrom_10 ?_
  refine v_pI C 5 a 1 501 (C_m C (u_5 a hi_a)) k_5 ty_5 (by decide) rfl ⟨rfl, rfl⟩ x_175 rfl rfl dX5_copyFrom_13 ?_
  refine v_aload_n C 0 dX5_copyFrom_16 rfl ?_
  refine v_aload_n C 1 dX5_copyFrom_17 rfl ?_
  refine v_gI C 5 b 2 502 (w 502 b 0) (C_m C (u_5 b hi_b)) k_5 (by decide) rfl rfl x_178 (by simp only [wS_s, wS_t, wS_a, ne_eq, Nat.reduceEqDiff, not_false_eq_true, hab]) dX5_copyFrom_18 ?_
  refine v_pI C 5 a 2 502 (C_m C (u_5 a hi_a)) k_5 ty_5 (by decide) rfl ⟨rfl, rfl⟩ x_178 rfl rfl dX5_copyFrom_21 ?_
  refine v_iconst (v := 1) C dX5_copyFrom_24 (by decide) ?_
  refine v_istore_n (lv2 := [(2, .int 1), (0, .ref (E.ad 5 a)), (1, .ref (E.ad 5 b))]) C dX5_copyFrom_25 rfl (by decide) rfl ?_
  have hL26 : ∀ (n_ : Nat) (i : Int32) (rkind : Row) (rweight : Row) (rout : Row) (rkeep : Row) (rleak : Row) (rhose : Row) (rstuck : Row), (17 - i).toNatClampNeg < n_ → (1 ≤ i ∧ i ≤ (w 500 b 0) + 1 ∧ rkind = cpR (w 30 a) (w 30 b) i.toNatClampNeg ∧ rweight = cpR (w 31 a) (w 31 b) i.toNatClampNeg ∧ rout = cpR (w 32 a) (w 32 b) i.toNatClampNeg ∧ rkeep = cpR (w 33 a) (w 33 b) i.toNatClampNeg ∧ rleak = cpR (w 34 a) (w 34 b) i.toNatClampNeg ∧ rhose = cpR (w 35 a) (w 35 b) i.toNatClampNeg ∧ rstuck = cpR (w 36 a) (w 36 b) i.toNatClampNeg) → V K E A 3 (QV K E A (P_X5_copyFrom w z a b hab)) 26 [(2, .int i), (0, .ref (E.ad 5 a)), (1, .ref (E.ad 5 b))] [] (wS (wS (wS (wS (wS (wS (wS (wS (wS (wS w 30 a rkind) 31 a rweight) 32 a rout) 33 a rkeep) 34 a rleak) 35 a rhose) 36 a rstuck) 500 a (fun _ => (w 500 b 0))) 501 a (fun _ => (w 501 b 0))) 502 a (fun _ => (w 502 b 0))) z := by
    intro n_
    induction n_ with
    | zero => intro i rkind rweight rout rkeep rleak rhose rstuck hm_; exact absurd hm_ (Nat.not_lt_zero _)
    | succ n_ ih_26 =>
      intro i rkind rweight rout rkeep rleak rhose rstuck hm_ hinv
      obtain ⟨g1, g2, ekind, eweight, eout, ekeep, eleak, ehose, estuck⟩ := hinv
      refine v_iload_n C 0 dX5_copyFrom_26 rfl ?_
      refine v_aload_n C 1 dX5_copyFrom_27 rfl ?_
      refine v_gI C 5 a 0 500 (w 500 b 0) (C_m C (u_5 a hi_a)) k_5 (by decide) rfl rfl x_168 (by simp only [wS_s, wS_t, wS_a, ne_eq, Nat.reduceEqDiff, not_false_eq_true, hab]) dX5_copyFrom_28 ?_
      refine v_ic_gt C 53 dX5_copyFrom_31 (by decide) (fun c_31 => ?_) (fun c_31 => ?_)
      · exact v_vret C dX5_copyFrom_53 (congr (congrArg Prod.mk (wS_eq (wS_eq (wS_eq (wS_eq (wS_eq (wS_eq (wS_eq (wS_eq (wS_eq (wS_eq rfl (by clear C ih_26; rw [show (w 500 b 0) + 1 = i by grind]; assumption)) (by clear C ih_26; rw [show (w 500 b 0) + 1 = i by grind]; assumption)) (by clear C ih_26; rw [show (w 500 b 0) + 1 = i by grind]; assumption)) (by clear C ih_26; rw [show (w 500 b 0) + 1 = i by grind]; assumption)) (by clear C ih_26; rw [show (w 500 b 0) + 1 = i by grind]; assumption)) (by clear C ih_26; rw [show (w 500 b 0) + 1 = i by grind]; assumption)) (by clear C ih_26; rw [show (w 500 b 0) + 1 = i by grind]; assumption)) rfl) rfl) rfl)) rfl)
      · refine v_iload_n C 0 dX5_copyFrom_34 rfl ?_
        refine v_bipush (v := 17) C dX5_copyFrom_35 (by decide) ?_
        refine v_ic_ge C 53 dX5_copyFrom_37 (by decide) (fun c_37 => absurd c_37 (by clear C ih_26; grind)) (fun c_37 => ?_)
        refine v_aload_n C 1 dX5_copyFrom_40 rfl ?_
        refine v_iload_n C 0 dX5_copyFrom_41 rfl ?_
        refine v_aload_n C 2 dX5_copyFrom_42 rfl ?_
        refine v_iload_n C 0 dX5_copyFrom_43 rfl ?_
        refine v_vV C 5 a [.int i, .ref (E.ad 5 b), .int i] 3 (c_X5_takeCar E hE _ _ a hi_a b hi_b i i  (by clear C ih_26; (try simp only [wS_s, wS_t, wS_a, ne_eq, Nat.reduceEqDiff, not_false_eq_true, hab]); first | assumption | grind) (by clear C ih_26; (try simp only [wS_s, wS_t, wS_a, ne_eq, Nat.reduceEqDiff, not_false_eq_true, hab]); first | assumption | grind)) m_X5_takeCar x_725 x_726 x_727 p_X5_takeCar rfl ⟨Nat.le_of_ble_eq_true rfl, Nat.le_of_ble_eq_true rfl⟩ (C_m C (u_5 a hi_a)) k_5 rfl (Nat.le_of_ble_eq_true rfl) dX5_copyFrom_44 (fun u1 v1 hp1 => ?_)
        have hu1 := hp1
        cases hu1
        refine v_w (w2 := (wS (wS (wS (wS (wS (wS (wS (wS (wS (wS w 30 a (if (1 ≤ i ∧ i ≤ (w 500 b 0)) ∧ (1 ≤ i ∧ i ≤ (w 500 b 0)) then upd rkind (i).toNatClampNeg ((w 30 b) (i).toNatClampNeg) else rkind)) 31 a (if (1 ≤ i ∧ i ≤ (w 500 b 0)) ∧ (1 ≤ i ∧ i ≤ (w 500 b 0)) then upd rweight (i).toNatClampNeg ((w 31 b) (i).toNatClampNeg) else rweight)) 32 a (if (1 ≤ i ∧ i ≤ (w 500 b 0)) ∧ (1 ≤ i ∧ i ≤ (w 500 b 0)) then upd rout (i).toNatClampNeg ((w 32 b) (i).toNatClampNeg) else rout)) 33 a (if (1 ≤ i ∧ i ≤ (w 500 b 0)) ∧ (1 ≤ i ∧ i ≤ (w 500 b 0)) then upd rkeep (i).toNatClampNeg ((w 33 b) (i).toNatClampNeg) else rkeep)) 34 a (if (1 ≤ i ∧ i ≤ (w 500 b 0)) ∧ (1 ≤ i ∧ i ≤ (w 500 b 0)) then upd rleak (i).toNatClampNeg ((w 34 b) (i).toNatClampNeg) else rleak)) 35 a (if (1 ≤ i ∧ i ≤ (w 500 b 0)) ∧ (1 ≤ i ∧ i ≤ (w 500 b 0)) then upd rhose (i).toNatClampNeg ((w 35 b) (i).toNatClampNeg) else rhose)) 36 a (if (1 ≤ i ∧ i ≤ (w 500 b 0)) ∧ (1 ≤ i ∧ i ≤ (w 500 b 0)) then upd rstuck (i).toNatClampNeg ((w 36 b) (i).toNatClampNeg) else rstuck)) 500 a (fun _ => (w 500 b 0))) 501 a (fun _ => (w 501 b 0))) 502 a (fun _ => (w 502 b 0)))) (by simp only [wS_s, wS_t, wS_a, ne_eq, Nat.reduceEqDiff, not_false_eq_true, wS_wS, wS_p, wS_pp, Nat.reduceLT, id_eq, hab]) ?_
        refine v_iinc (v := i + 1) (lv2 := [(2, .int (i + 1)), (0, .ref (E.ad 5 a)), (1, .ref (E.ad 5 b))]) C 0 dX5_copyFrom_47 rfl rfl (by decide) rfl ?_
        refine v_goto C 26 dX5_copyFrom_50 (by decide) ?_
        exact ih_26 (i + 1) (if (1 ≤ i ∧ i ≤ (w 500 b 0)) ∧ (1 ≤ i ∧ i ≤ (w 500 b 0)) then upd rkind (i).toNatClampNeg ((w 30 b) (i).toNatClampNeg) else rkind) (if (1 ≤ i ∧ i ≤ (w 500 b 0)) ∧ (1 ≤ i ∧ i ≤ (w 500 b 0)) then upd rweight (i).toNatClampNeg ((w 31 b) (i).toNatClampNeg) else rweight) (if (1 ≤ i ∧ i ≤ (w 500 b 0)) ∧ (1 ≤ i ∧ i ≤ (w 500 b 0)) then upd rout (i).toNatClampNeg ((w 32 b) (i).toNatClampNeg) else rout) (if (1 ≤ i ∧ i ≤ (w 500 b 0)) ∧ (1 ≤ i ∧ i ≤ (w 500 b 0)) then upd rkeep (i).toNatClampNeg ((w 33 b) (i).toNatClampNeg) else rkeep) (if (1 ≤ i ∧ i ≤ (w 500 b 0)) ∧ (1 ≤ i ∧ i ≤ (w 500 b 0)) then upd rleak (i).toNatClampNeg ((w 34 b) (i).toNatClampNeg) else rleak) (if (1 ≤ i ∧ i ≤ (w 500 b 0)) ∧ (1 ≤ i ∧ i ≤ (w 500 b 0)) then upd rhose (i).toNatClampNeg ((w 35 b) (i).toNatClampNeg) else rhose) (if (1 ≤ i ∧ i ≤ (w 500 b 0)) ∧ (1 ≤ i ∧ i ≤ (w 500 b 0)) then upd rstuck (i).toNatClampNeg ((w 36 b) (i).toNatClampNeg) else rstuck) (by clear C ih_26; exact Nat.lt_of_lt_of_le (m_up (by grind) (by grind)) (Nat.le_of_lt_succ hm_)) (by clear C ih_26; refine ⟨by grind, by grind, by rw [cl_succ (by grind) (by grind), ← cpR_s _ _ (cl_pos g1), ekind]; grind, by rw [cl_succ (by grind) (by grind), ← cpR_s _ _ (cl_pos g1), eweight]; grind, by rw [cl_succ (by grind) (by grind), ← cpR_s _ _ (cl_pos g1), eout]; grind, by rw [cl_succ (by grind) (by grind), ← cpR_s _ _ (cl_pos g1), ekeep]; grind, by rw [cl_succ (by grind) (by grind), ← cpR_s _ _ (cl_pos g1), eleak]; grind, by rw [cl_succ (by grind) (by grind), ← cpR_s _ _ (cl_pos g1), ehose]; grind, by rw [cl_succ (by grind) (by grind), ← cpR_s _ _ (cl_pos g1), estuck]; grind⟩)
  refine v_w (wS_id _ 30 a).symm ?_
  refine v_w (wS_id _ 31 a).symm ?_
  refine v_w (wS_id _ 32 a).symm ?_
  refine v_w (wS_id _ 33 a).symm ?_
  refine v_w (wS_id _ 34 a).symm ?_
  refine v_w (wS_id _ 35 a).symm ?_
  refine v_w (wS_id _ 36 a).symm ?_
  refine v_w (w2 := (wS (wS (wS (wS (wS (wS (wS (wS (wS (wS w 30 a (w 30 a)) 31 a (w 31 a)) 32 a (w 32 a)) 33 a (w 33 a)) 34 a (w 34 a)) 35 a (w 35 a)) 36 a (w 36 a)) 500 a (fun _ => (w 500 b 0))) 501 a (fun _ => (w 501 b 0))) 502 a (fun _ => (w 502 b 0)))) (by simp only [wS_s, wS_t, wS_a, ne_eq, Nat.reduceEqDiff, not_false_eq_true, wS_wS, wS_p, wS_pp, Nat.reduceLT, id_eq, hab]) ?_
  exact hL26 _ 1 (w 30 a) (w 31 a) (w 32 a) (w 33 a) (w 34 a) (w 35 a) (w 36 a) (Nat.lt_succ_self _) (by clear C hL26; exact ⟨by decide, by grind, (cpR_1 _ _).symm, (cpR_1 _ _).symm, (cpR_1 _ _).symm, (cpR_1 _ _).symm, (cpR_1 _ _).symm, (cpR_1 _ _).symm, (cpR_1 _ _).symm⟩)
abbrev P_X5_wholeWeight (w : Wi) (z : Wj) (a : Nat) : Int32 → WW → Prop := fun r_ u_ => r_ = (wsum (w 31 a) ((w 500 a 0) + 1).toNatClampNeg) ∧ u_ = (w, z)
set_option maxHeartbeats 4000000 in
set_option maxRecDepth 100000 in
theorem c_X5_wholeWeight (E : En) (hE : q_ok E) (w : Wi) (z : Wj) (a : Nat) (hi_a : a < 4) (h1 : 0 ≤ (w 500 a 0)) (h2 : (w 500 a 0) ≤ 16) : CtI M_X5_wholeWeight E [.ref (E.ad 5 a)] w z (P_X5_wholeWeight w z a) := by
  refine ctI_of (lv := [(0, .ref (E.ad 5 a))]) hE m_X5_wholeWeight (Nat.le_of_ble_eq_true rfl) rfl ?_
  intro K A C0
  have C : Cx K E A cX5_wholeWeight 3 RX5 (some .int) { frames := 0, cells := 0, slots := 0, locals := 0 } := C0
  clear C0
  refine v_bipush (v := 90) C dX5_wholeWeight_0 (by decide) ?_
  refine v_istore_n (lv2 := [(1, .int 90), (0, .ref (E.ad 5 a))]) C dX5_wholeWeight_2 rfl (by decide) rfl ?_
  refine v_iconst (v := 1) C dX5_wholeWeight_3 (by decide) ?_
  refine v_istore_n (lv2 := [(2, .int 1), (1, .int 90), (0, .ref (E.ad 5 a))]) C dX5_wholeWeight_4 rfl (by decide) rfl ?_
  have hL5 : ∀ (n_ : Nat) (sm : Int32) (i : Int32), (17 - i).toNatClampNeg < n_ → (1 ≤ i ∧ i ≤ (w 500 a 0) + 1 ∧ sm = wsum (w 31 a) i.toNatClampNeg) → V K E A 3 (QI K E A (P_X5_wholeWeight w z a)) 5 [(2, .int i), (1, .int sm), (0, .ref (E.ad 5 a))] [] w z := by
    intro n_
    induction n_ with
    | zero => intro sm i hm_; exact absurd hm_ (Nat.not_lt_zero _)
    | succ n_ ih_5 =>
      intro sm i hm_ hinv
      obtain ⟨g1, g2, g3⟩ := hinv
      refine v_iload_n C 0 dX5_wholeWeight_5 rfl ?_
      refine v_aload_n C 2 dX5_wholeWeight_6 rfl ?_
      refine v_gI C 5 a 0 500 (w 500 a 0) (C_m C (u_5 a hi_a)) k_5 (by decide) rfl rfl x_168 rfl dX5_wholeWeight_7 ?_
      refine v_ic_gt C 34 dX5_wholeWeight_10 (by decide) (fun c_10 => ?_) (fun c_10 => ?_)
      · refine v_iload_n C 1 dX5_wholeWeight_34 rfl ?_
        exact v_iret C dX5_wholeWeight_35 ⟨(by clear C ih_5; rw [show (w 500 a 0) + 1 = i by grind]; exact g3), (congr (congrArg Prod.mk rfl) rfl)⟩
      · refine v_iload_n C 0 dX5_wholeWeight_13 rfl ?_
        refine v_bipush (v := 17) C dX5_wholeWeight_14 (by decide) ?_
        refine v_ic_ge C 34 dX5_wholeWeight_16 (by decide) (fun c_16 => absurd c_16 (by clear C ih_5; grind)) (fun c_16 => ?_)
        refine v_iload_n C 1 dX5_wholeWeight_19 rfl ?_
        refine v_aload_n C 2 dX5_wholeWeight_20 rfl ?_
        refine v_gR C 5 a 4 31 a (C_m C (u_5 a hi_a)) k_5 (by decide) x_183 (fun _ _ _ => rfl) dX5_wholeWeight_21 ?_
        refine v_iload_n C 0 dX5_wholeWeight_24 rfl ?_
        refine v_iald C 31 a (C_m C (u_31 a hi_a)) ⟨by decide, rfl, rfl⟩ (v_in (N := 17) (by decide) (by clear C ih_5; grind) (by clear C ih_5; grind)) dX5_wholeWeight_25 ?_
        refine v_iadd C dX5_wholeWeight_26 ?_
        refine v_istore_n (lv2 := [(1, .int (sm + ((w 31 a) i.toNatClampNeg))), (2, .int i), (0, .ref (E.ad 5 a))]) C dX5_wholeWeight_27 rfl (by decide) rfl ?_
        refine v_iinc (v := i + 1) (lv2 := [(2, .int (i + 1)), (1, .int (sm + ((w 31 a) i.toNatClampNeg))), (0, .ref (E.ad 5 a))]) C 1 dX5_wholeWeight_28 rfl rfl (by decide) rfl ?_
        refine v_goto C 5 dX5_wholeWeight_31 (by decide) ?_
        exact ih_5 (sm + ((w 31 a) i.toNatClampNeg)) (i + 1) (by clear C ih_5; exact Nat.lt_of_lt_of_le (m_up (by grind) (by grind)) (Nat.le_of_lt_succ hm_)) (by clear C ih_5; refine ⟨by grind, by grind, by rw [cl_succ (by grind) (by grind), wsum_s _ (cl_pos g1), g3]⟩)
  exact hL5 _ 90 1 (Nat.lt_succ_self _) (by clear C hL5; exact ⟨by decide, by grind, rfl⟩)
