abbrev P_X11_isRun (w : Wi) (z : Wj) (g : Int32) (sp : Int32) (sn : Int32) : Int32 → WW → Prop := fun r_ u_ => r_ = (irF g sp sn) ∧ u_ = (w, z)
set_option maxHeartbeats 4000000 in
set_option maxRecDepth 100000 in
theorem c_X11_isRun (E : En) (hE : q_ok E) (w : Wi) (z : Wj) (g : Int32) (sp : Int32) (sn : Int32) : CtI M_X11_isRun E [.int g, .int sp, .int sn] w z (P_X11_isRun w z g sp sn) := by
  refine ctI_of (lv := [(0, .int g), (1, .int sp), (2, .int sn)]) hE m_X11_isRun (Nat.le_of_ble_eq_true rfl) rfl ?_
  intro K A C0
  have C : Cx K E A cX11_isRun 3 RX11 (some .boolean) { frames := 0, cells := 0, slots := 0, locals := 0 } := C0
  clear C0
  refine v_iload_n C 0 dX11_isRun_0 rfl ?_
  refine v_bipush (v := (-40)) C dX11_isRun_1 (by decide) ?_
  refine v_ic_lt C 37 dX11_isRun_3 (by decide) (fun c_3 => ?_) (fun c_3 => ?_)
  · refine v_iconst (v := 0) C dX11_isRun_37 (by decide) ?_
    exact v_zret C dX11_isRun_38 (by decide) ⟨(by clear C; simp only [irF]; first | rw [if_pos (by grind)] | rw [if_neg (by grind)]), (congr (congrArg Prod.mk rfl) rfl)⟩
  · refine v_iload_n C 0 dX11_isRun_6 rfl ?_
    refine v_bipush (v := 40) C dX11_isRun_7 (by decide) ?_
    refine v_ic_gt C 37 dX11_isRun_9 (by decide) (fun c_9 => ?_) (fun c_9 => ?_)
    · refine v_iconst (v := 0) C dX11_isRun_37 (by decide) ?_
      exact v_zret C dX11_isRun_38 (by decide) ⟨(by clear C; simp only [irF]; first | rw [if_pos (by grind)] | rw [if_neg (by grind)]), (congr (congrArg Prod.mk rfl) rfl)⟩
    · refine v_iload_n C 1 dX11_isRun_12 rfl ?_
      refine v_if_lt C 37 dX11_isRun_13 (by decide) (fun c_13 => ?_) (fun c_13 => ?_)
      · refine v_iconst (v := 0) C dX11_isRun_37 (by decide) ?_
        exact v_zret C dX11_isRun_38 (by decide) ⟨(by clear C; simp only [irF]; first | rw [if_pos (by grind)] | rw [if_neg (by grind)]), (congr (congrArg Prod.mk rfl) rfl)⟩
      · refine v_iload_n C 1 dX11_isRun_16 rfl ?_
        refine v_sipush (v := 3000) C dX11_isRun_17 (by decide) ?_
        refine v_ic_gt C 37 dX11_isRun_20 (by decide) (fun c_20 => ?_) (fun c_20 => ?_)
        · refine v_iconst (v := 0) C dX11_isRun_37 (by decide) ?_
          exact v_zret C dX11_isRun_38 (by decide) ⟨(by clear C; simp only [irF]; first | rw [if_pos (by grind)] | rw [if_neg (by grind)]), (congr (congrArg Prod.mk rfl) rfl)⟩
        · refine v_iload_n C 2 dX11_isRun_23 rfl ?_
          refine v_if_lt C 37 dX11_isRun_24 (by decide) (fun c_24 => ?_) (fun c_24 => ?_)
          · refine v_iconst (v := 0) C dX11_isRun_37 (by decide) ?_
            exact v_zret C dX11_isRun_38 (by decide) ⟨(by clear C; simp only [irF]; first | rw [if_pos (by grind)] | rw [if_neg (by grind)]), (congr (congrArg Prod.mk rfl) rfl)⟩
          · refine v_iload_n C 2 dX11_isRun_27 rfl ?_
            refine v_bipush (v := 90) C dX11_isRun_28 (by decide) ?_
            refine v_ic_gt C 37 dX11_isRun_30 (by decide) (fun c_30 => ?_) (fun c_30 => ?_)
            · refine v_iconst (v := 0) C dX11_isRun_37 (by decide) ?_
              exact v_zret C dX11_isRun_38 (by decide) ⟨(by clear C; simp only [irF]; first | rw [if_pos (by grind)] | rw [if_neg (by grind)]), (congr (congrArg Prod.mk rfl) rfl)⟩
            · refine v_iconst (v := 1) C dX11_isRun_33 (by decide) ?_
              refine v_goto C 38 dX11_isRun_34 (by decide) ?_
              exact v_zret C dX11_isRun_38 (by decide) ⟨(by clear C; simp only [irF]; first | rw [if_pos (by grind)] | rw [if_neg (by grind)]), (congr (congrArg Prod.mk rfl) rfl)⟩
abbrev P_X11_end (w : Wi) (z : Wj) (n : Int32) : Int32 → WW → Prop := fun r_ u_ => r_ = (if n < 0 ∨ (w 661 0 0) < n then 0 else 1) ∧ u_ = ((wS w 661 0 (fun _ => if n < 0 ∨ (w 661 0 0) < n then (w 661 0 0) else n)), z)
set_option maxHeartbeats 4000000 in
set_option maxRecDepth 100000 in
theorem c_X11_end (E : En) (hE : q_ok E) (w : Wi) (z : Wj) (n : Int32) : CtI M_X11_end E [.ref (E.ad 11 0), .int n] w z (P_X11_end w z n) := by
  refine ctI_of (lv := [(0, .ref (E.ad 11 0)), (1, .int n)]) hE m_X11_end (Nat.le_of_ble_eq_true rfl) rfl ?_
  intro K A C0
  have C : Cx K E A cX11_end 2 RX11 (some .boolean) { frames := 1, cells := 0, slots := 0, locals := 21 } := C0
  clear C0
  refine v_aload_n C 0 dX11_end_0 rfl ?_
  refine v_gR C 11 0 0 7 0 (C_m C (u_11 0 (by decide))) k_11 (by decide) x_500 (fun _ _ _ => rfl) dX11_end_1 ?_
  refine v_iload_n C 1 dX11_end_4 rfl ?_
  refine v_vI C 7 0 [.int n] 1 (c_X7_keepFirst E hE _ _  n  ) m_X7_keepFirst x_556 x_557 x_558 p_X7_keepFirst rfl ⟨Nat.le_of_ble_eq_true rfl, Nat.le_of_ble_eq_true rfl⟩ (C_m C (u_7 0 (by decide))) k_7 rfl (Nat.le_of_ble_eq_true rfl) dX11_end_5 (fun r1 u1 v1 hp1 => ?_)
  obtain ⟨hr1, hu1⟩ := hp1
  subst hr1
  cases hu1
  exact v_zret C dX11_end_8 (by exact nb (by split <;> simp)) ⟨rfl, (congr (congrArg Prod.mk rfl) rfl)⟩
abbrev P_X11_fault (w : Wi) (z : Wj) : Int32 → WW → Prop := fun r_ u_ => r_ = ((w 991 0 0)) ∧ u_ = (w, z)
set_option maxHeartbeats 4000000 in
set_option maxRecDepth 100000 in
theorem c_X11_fault (E : En) (hE : q_ok E) (w : Wi) (z : Wj) : CtI M_X11_fault E [.ref (E.ad 11 0)] w z (P_X11_fault w z) := by
  refine ctI_of (lv := [(0, .ref (E.ad 11 0))]) hE m_X11_fault (Nat.le_of_ble_eq_true rfl) rfl ?_
  intro K A C0
  have C : Cx K E A cX11_fault 1 RX11 (some .int) { frames := 0, cells := 0, slots := 0, locals := 0 } := C0
  clear C0
  refine v_aload_n C 0 dX11_fault_0 rfl ?_
  refine v_gI C 11 0 11 991 (w 991 0 0) (C_m C (u_11 0 (by decide))) k_11 (by decide) rfl rfl x_511 rfl dX11_fault_1 ?_
  exact v_iret C dX11_fault_4 ⟨rfl, (congr (congrArg Prod.mk rfl) rfl)⟩
abbrev P_X11_ordered (w : Wi) (z : Wj) (k : Int32) : Int32 → WW → Prop := fun r_ u_ => r_ = (if 0 ≤ k ∧ k < (w 909 0 0) ∧ k < 6 then (w 39 0) (k).toNatClampNeg else (-1)) ∧ u_ = (w, z)
set_option maxHeartbeats 4000000 in
set_option maxRecDepth 100000 in
theorem c_X11_ordered (E : En) (hE : q_ok E) (w : Wi) (z : Wj) (k : Int32) : CtI M_X11_ordered E [.ref (E.ad 11 0), .int k] w z (P_X11_ordered w z k) := by
  refine ctI_of (lv := [(0, .ref (E.ad 11 0)), (1, .int k)]) hE m_X11_ordered (Nat.le_of_ble_eq_true rfl) rfl ?_
  intro K A C0
  have C : Cx K E A cX11_ordered 2 RX11 (some .int) { frames := 1, cells := 0, slots := 0, locals := 21 } := C0
  clear C0
  refine v_aload_n C 0 dX11_ordered_0 rfl ?_
  refine v_gR C 11 0 8 10 0 (C_m C (u_11 0 (by decide))) k_11 (by decide) x_508 (fun _ _ _ => rfl) dX11_ordered_1 ?_
  refine v_iload_n C 1 dX11_ordered_4 rfl ?_
  refine v_vI C 10 0 [.int k] 1 (c_X10_bestAt E hE _ _  k  ) m_X10_bestAt x_968 x_969 x_970 p_X10_bestAt rfl ⟨Nat.le_of_ble_eq_true rfl, Nat.le_of_ble_eq_true rfl⟩ (C_m C (u_10 0 (by decide))) k_10 rfl (Nat.le_of_ble_eq_true rfl) dX11_ordered_5 (fun r1 u1 v1 hp1 => ?_)
  obtain ⟨hr1, hu1⟩ := hp1
  subst hr1
  cases hu1
  exact v_iret C dX11_ordered_8 ⟨rfl, (congr (congrArg Prod.mk rfl) rfl)⟩
abbrev P_X11_fitAt (w : Wi) (z : Wj) (k : Int32) : Int32 → WW → Prop := fun r_ u_ => r_ = (if 0 ≤ k ∧ k < (w 270 0 0) ∧ k < 113 then (w 24 0) (k).toNatClampNeg else (-1)) ∧ u_ = (w, z)
set_option maxHeartbeats 4000000 in
set_option maxRecDepth 100000 in
theorem c_X11_fitAt (E : En) (hE : q_ok E) (w : Wi) (z : Wj) (k : Int32) : CtI M_X11_fitAt E [.ref (E.ad 11 0), .int k] w z (P_X11_fitAt w z k) := by
  refine ctI_of (lv := [(0, .ref (E.ad 11 0)), (1, .int k)]) hE m_X11_fitAt (Nat.le_of_ble_eq_true rfl) rfl ?_
  intro K A C0
  have C : Cx K E A cX11_fitAt 2 RX11 (some .int) { frames := 1, cells := 0, slots := 0, locals := 21 } := C0
  clear C0
  refine v_aload_n C 0 dX11_fitAt_0 rfl ?_
  refine v_gR C 11 0 9 2 0 (C_m C (u_11 0 (by decide))) k_11 (by decide) x_509 (fun _ _ _ => rfl) dX11_fitAt_1 ?_
  refine v_iload_n C 1 dX11_fitAt_4 rfl ?_
  refine v_vI C 2 0 [.int k] 1 (c_X2_fittingAt E hE _ _  k  ) m_X2_fittingAt x_1045 x_1046 x_1047 p_X2_fittingAt rfl ⟨Nat.le_of_ble_eq_true rfl, Nat.le_of_ble_eq_true rfl⟩ (C_m C (u_2 0 (by decide))) k_2 rfl (Nat.le_of_ble_eq_true rfl) dX11_fitAt_5 (fun r1 u1 v1 hp1 => ?_)
  obtain ⟨hr1, hu1⟩ := hp1
  subst hr1
  cases hu1
  exact v_iret C dX11_fitAt_8 ⟨rfl, (congr (congrArg Prod.mk rfl) rfl)⟩
abbrev P_X11_suspect (w : Wi) (z : Wj) (k : Int32) : Int32 → WW → Prop := fun r_ u_ => r_ = (if 0 ≤ k ∧ k < (w 185 0 0) ∧ k < 40 then (w 20 0) (k).toNatClampNeg else (-1)) ∧ u_ = (w, z)
set_option maxHeartbeats 4000000 in
set_option maxRecDepth 100000 in
theorem c_X11_suspect (E : En) (hE : q_ok E) (w : Wi) (z : Wj) (k : Int32) : CtI M_X11_suspect E [.ref (E.ad 11 0), .int k] w z (P_X11_suspect w z k) := by
  refine ctI_of (lv := [(0, .ref (E.ad 11 0)), (1, .int k)]) hE m_X11_suspect (Nat.le_of_ble_eq_true rfl) rfl ?_
  intro K A C0
  have C : Cx K E A cX11_suspect 2 RX11 (some .int) { frames := 1, cells := 0, slots := 0, locals := 21 } := C0
  clear C0
  refine v_aload_n C 0 dX11_suspect_0 rfl ?_
  refine v_gR C 11 0 10 1 0 (C_m C (u_11 0 (by decide))) k_11 (by decide) x_510 (fun _ _ _ => rfl) dX11_suspect_1 ?_
  refine v_iload_n C 1 dX11_suspect_4 rfl ?_
  refine v_vI C 1 0 [.int k] 1 (c_X1_foundAt E hE _ _  k  ) m_X1_foundAt x_1129 x_1130 x_1131 p_X1_foundAt rfl ⟨Nat.le_of_ble_eq_true rfl, Nat.le_of_ble_eq_true rfl⟩ (C_m C (u_1 0 (by decide))) k_1 rfl (Nat.le_of_ble_eq_true rfl) dX11_suspect_5 (fun r1 u1 v1 hp1 => ?_)
  obtain ⟨hr1, hu1⟩ := hp1
  subst hr1
  cases hu1
  exact v_iret C dX11_suspect_8 ⟨rfl, (congr (congrArg Prod.mk rfl) rfl)⟩
abbrev P_X11_ran (w : Wi) (z : Wj) (wh : Int32) : Int32 → WW → Prop := fun r_ u_ => r_ = (if (w 992 0 0) = 0 then (-1) else if wh = 0 then (w 585 0 0) else if wh = 1 then (w 586 0 0) else if wh = 2 then (w 584 0 0) else (-1)) ∧ u_ = (w, z)
set_option maxHeartbeats 4000000 in
set_option maxRecDepth 100000 in
theorem c_X11_ran (E : En) (hE : q_ok E) (w : Wi) (z : Wj) (wh : Int32) : CtI M_X11_ran E [.ref (E.ad 11 0), .int wh] w z (P_X11_ran w z wh) := by
  refine ctI_of (lv := [(0, .ref (E.ad 11 0)), (1, .int wh)]) hE m_X11_ran (Nat.le_of_ble_eq_true rfl) rfl ?_
  intro K A C0
  have C : Cx K E A cX11_ran 2 RX11 (some .int) { frames := 0, cells := 0, slots := 0, locals := 0 } := C0
  clear C0
  refine v_aload_n C 0 dX11_ran_0 rfl ?_
  refine v_gI C 11 0 12 992 (w 992 0 0) (C_m C (u_11 0 (by decide))) k_11 (by decide) rfl rfl x_512 rfl dX11_ran_1 ?_
  refine v_if_ne C 9 dX11_ran_4 (by decide) (fun c_4 => ?_) (fun c_4 => ?_)
  · refine v_iload_n C 1 dX11_ran_9 rfl ?_
    by_cases s_10 : (wh).toInt < 0 ∨ 2 < (wh).toInt
    · refine v_tout C 60 dX11_ran_10 s_10 (by decide) ?_
      have s_10 := swo (L := 0) (H := 2) s_10 (by decide) (by decide)
      refine v_iconst (v := (-1)) C dX11_ran_60 (by decide) ?_
      exact v_iret C dX11_ran_61 ⟨(by clear C; grind), (congr (congrArg Prod.mk rfl) rfl)⟩
    · have s_10 := sw_0_2 s_10
      rcases s_10 with s_10 | s_10 | s_10
      · refine v_i (y := 0) s_10 ?_
        refine v_tin C 26 36 dX11_ran_10 (by decide) (by decide) (by decide) (by decide) ?_
        refine v_aload_n C 0 dX11_ran_36 rfl ?_
        refine v_gR C 11 0 7 6 0 (C_m C (u_11 0 (by decide))) k_11 (by decide) x_507 (fun _ _ _ => rfl) dX11_ran_37 ?_
        refine v_gI C 6 0 5 585 (w 585 0 0) (C_m C (u_6 0 (by decide))) k_6 (by decide) rfl rfl x_327 rfl dX11_ran_40 ?_
        exact v_iret C dX11_ran_43 ⟨(by clear C; grind), (congr (congrArg Prod.mk rfl) rfl)⟩
      · refine v_i (y := 1) s_10 ?_
        refine v_tin C 34 44 dX11_ran_10 (by decide) (by decide) (by decide) (by decide) ?_
        refine v_aload_n C 0 dX11_ran_44 rfl ?_
        refine v_gR C 11 0 7 6 0 (C_m C (u_11 0 (by decide))) k_11 (by decide) x_507 (fun _ _ _ => rfl) dX11_ran_45 ?_
        refine v_gI C 6 0 6 586 (w 586 0 0) (C_m C (u_6 0 (by decide))) k_6 (by decide) rfl rfl x_329 rfl dX11_ran_48 ?_
        exact v_iret C dX11_ran_51 ⟨(by clear C; grind), (congr (congrArg Prod.mk rfl) rfl)⟩
      · refine v_i (y := 2) s_10 ?_
        refine v_tin C 42 52 dX11_ran_10 (by decide) (by decide) (by decide) (by decide) ?_
        refine v_aload_n C 0 dX11_ran_52 rfl ?_
        refine v_gR C 11 0 7 6 0 (C_m C (u_11 0 (by decide))) k_11 (by decide) x_507 (fun _ _ _ => rfl) dX11_ran_53 ?_
        refine v_gI C 6 0 4 584 (w 584 0 0) (C_m C (u_6 0 (by decide))) k_6 (by decide) rfl rfl x_325 rfl dX11_ran_56 ?_
        exact v_iret C dX11_ran_59 ⟨(by clear C; grind), (congr (congrArg Prod.mk rfl) rfl)⟩
  · refine v_iconst (v := (-1)) C dX11_ran_7 (by decide) ?_
    exact v_iret C dX11_ran_8 ⟨(by clear C; grind), (congr (congrArg Prod.mk rfl) rfl)⟩
