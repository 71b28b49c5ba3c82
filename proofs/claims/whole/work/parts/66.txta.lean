abbrev P_X9_mostOf (w : Wi) (z : Wj) (x : Int32) : Int32 → WW → Prop := fun r_ u_ => r_ = (moF x) ∧ u_ = (w, z)
set_option maxHeartbeats 4000000 in
set_option maxRecDepth 100000 in
theorem c_X9_mostOf (E : En) (hE : q_ok E) (w : Wi) (z : Wj) (x : Int32) : CtI M_X9_mostOf E [.int x] w z (P_X9_mostOf w z x) := by
  refine ctI_of (lv := [(0, .int x)]) hE m_X9_mostOf (Nat.le_of_ble_eq_true rfl) rfl ?_
  intro K A C0
  have C : Cx K E A cX9_mostOf 1 RX9 (some .int) { frames := 0, cells := 0, slots := 0, locals := 0 } := C0
  clear C0
  refine v_iload_n C 0 dX9_mostOf_0 rfl ?_
  refine v_iconst (v := 3) C dX9_mostOf_1 (by decide) ?_
  refine v_ic_ne C 9 dX9_mostOf_2 (by decide) (fun c_2 => ?_) (fun c_2 => ?_)
  · refine v_iload_n C 0 dX9_mostOf_9 rfl ?_
    refine v_iconst (v := 4) C dX9_mostOf_10 (by decide) ?_
    refine v_ic_ne C 19 dX9_mostOf_11 (by decide) (fun c_11 => ?_) (fun c_11 => ?_)
    · refine v_bipush (v := 100) C dX9_mostOf_19 (by decide) ?_
      exact v_iret C dX9_mostOf_21 ⟨(by clear C; simp only [moF]; grind), (congr (congrArg Prod.mk rfl) rfl)⟩
    · refine v_bipush (v := 99) C dX9_mostOf_14 (by decide) ?_
      refine v_goto C 21 dX9_mostOf_16 (by decide) ?_
      exact v_iret C dX9_mostOf_21 ⟨(by clear C; simp only [moF]; grind), (congr (congrArg Prod.mk rfl) rfl)⟩
  · refine v_iconst (v := 3) C dX9_mostOf_5 (by decide) ?_
    refine v_goto C 21 dX9_mostOf_6 (by decide) ?_
    exact v_iret C dX9_mostOf_21 ⟨(by clear C; simp only [moF]; grind), (congr (congrArg Prod.mk rfl) rfl)⟩
abbrev P_X9_kindHere (w : Wi) (z : Wj) : Int32 → WW → Prop := fun r_ u_ => r_ = (kdT ((w 37 0), (w 661 0 0), (w 741 0 0)) ((w 743 0 0), (w 744 0 0), (w 742 0 0), (w 745 0 0), (w 746 0 0), (w 747 0 0))) ∧ u_ = (w, z)
set_option maxHeartbeats 4000000 in
set_option maxRecDepth 100000 in
theorem c_X9_kindHere (E : En) (hE : q_ok E) (w : Wi) (z : Wj) (h1 : okT ((w 37 0), (w 661 0 0), (w 741 0 0)) ((w 743 0 0), (w 744 0 0), (w 742 0 0), (w 745 0 0), (w 746 0 0), (w 747 0 0))) : CsI M_X9_kindHere E [.ref (E.ad 9 0)] w z (P_X9_kindHere w z) := by
  refine csI_of (lv := [(0, .ref (E.ad 9 0))]) hE m_X9_kindHere (Nat.le_of_ble_eq_true rfl) rfl ?_
  intro K A C0 SO
  have C : Cx K E A cX9_kindHere 1 RX9 (some .int) { frames := 7, cells := 0, slots := 0, locals := 222 } := C0
  clear C0
  refine v_aload_n C 0 dX9_kindHere_0 rfl ?_
  refine v_gR C 9 0 0 8 0 (C_m C (u_9 0 (by decide))) k_9 (by decide) x_217 (fun _ _ _ => rfl) dX9_kindHere_1 ?_
  refine v_ldcS C SO (i := 3) (tx := "old") (by decide) dX9_kindHere_4 ?_
  refine v_vsI C SO 8 0 [.ref (E.ad 69 3)] 1 (c_X8_isWord E hE _ _    3 (by decide) (by clear C SO; exact h1.2.2.1)) m_X8_isWord x_603 x_604 x_605 p_X8_isWord rfl ⟨Nat.le_of_ble_eq_true rfl, Nat.le_of_ble_eq_true rfl⟩ (C_m C (u_8 0 (by decide))) k_8 rfl (Nat.le_of_ble_eq_true rfl) dX9_kindHere_6 (fun r1 u1 v1 hp1 => ?_)
  obtain ⟨hr1, hu1⟩ := hp1
  subst hr1
  cases hu1
  refine v_if_eq C 14 dX9_kindHere_9 (by decide) (fun c_9 => ?_) (fun c_9 => ?_)
  · refine v_aload_n C 0 dX9_kindHere_14 rfl ?_
    refine v_gR C 9 0 0 8 0 (C_m C (u_9 0 (by decide))) k_9 (by decide) x_217 (fun _ _ _ => rfl) dX9_kindHere_15 ?_
    refine v_ldcS C SO (i := 4) (tx := "quick") (by decide) dX9_kindHere_18 ?_
    refine v_vsI C SO 8 0 [.ref (E.ad 69 4)] 1 (c_X8_isWord E hE _ _    4 (by decide) (by clear C SO; exact h1.2.2.1)) m_X8_isWord x_603 x_604 x_605 p_X8_isWord rfl ⟨Nat.le_of_ble_eq_true rfl, Nat.le_of_ble_eq_true rfl⟩ (C_m C (u_8 0 (by decide))) k_8 rfl (Nat.le_of_ble_eq_true rfl) dX9_kindHere_20 (fun r2 u2 v2 hp2 => ?_)
    obtain ⟨hr2, hu2⟩ := hp2
    subst hr2
    cases hu2
    refine v_if_eq C 28 dX9_kindHere_23 (by decide) (fun c_23 => ?_) (fun c_23 => ?_)
    · refine v_aload_n C 0 dX9_kindHere_28 rfl ?_
      refine v_gR C 9 0 0 8 0 (C_m C (u_9 0 (by decide))) k_9 (by decide) x_217 (fun _ _ _ => rfl) dX9_kindHere_29 ?_
      refine v_ldcS C SO (i := 5) (tx := "slow") (by decide) dX9_kindHere_32 ?_
      refine v_vsI C SO 8 0 [.ref (E.ad 69 5)] 1 (c_X8_isWord E hE _ _    5 (by decide) (by clear C SO; exact h1.2.2.1)) m_X8_isWord x_603 x_604 x_605 p_X8_isWord rfl ⟨Nat.le_of_ble_eq_true rfl, Nat.le_of_ble_eq_true rfl⟩ (C_m C (u_8 0 (by decide))) k_8 rfl (Nat.le_of_ble_eq_true rfl) dX9_kindHere_34 (fun r3 u3 v3 hp3 => ?_)
      obtain ⟨hr3, hu3⟩ := hp3
      subst hr3
      cases hu3
      refine v_if_eq C 44 dX9_kindHere_37 (by decide) (fun c_37 => ?_) (fun c_37 => ?_)
      · refine v_iconst (v := (-1)) C dX9_kindHere_44 (by decide) ?_
        exact v_iret C dX9_kindHere_45 ⟨(by clear C SO; simp only [kdT]; clear h1; grind), (congr (congrArg Prod.mk rfl) rfl)⟩
      · refine v_iconst (v := 2) C dX9_kindHere_40 (by decide) ?_
        refine v_goto C 45 dX9_kindHere_41 (by decide) ?_
        exact v_iret C dX9_kindHere_45 ⟨(by clear C SO; simp only [kdT]; clear h1; grind), (congr (congrArg Prod.mk rfl) rfl)⟩
    · refine v_iconst (v := 1) C dX9_kindHere_26 (by decide) ?_
      exact v_iret C dX9_kindHere_27 ⟨(by clear C SO; simp only [kdT]; clear h1; grind), (congr (congrArg Prod.mk rfl) rfl)⟩
  · refine v_iconst (v := 0) C dX9_kindHere_12 (by decide) ?_
    exact v_iret C dX9_kindHere_13 ⟨(by clear C SO; simp only [kdT]; clear h1; grind), (congr (congrArg Prod.mk rfl) rfl)⟩
abbrev P_X9_optionHere (w : Wi) (z : Wj) : Int32 → WW → Prop := fun r_ u_ => r_ = (opT ((w 37 0), (w 661 0 0), (w 741 0 0)) ((w 743 0 0), (w 744 0 0), (w 742 0 0), (w 745 0 0), (w 746 0 0), (w 747 0 0))) ∧ u_ = (w, z)
set_option maxHeartbeats 4000000 in
set_option maxRecDepth 100000 in
theorem c_X9_optionHere (E : En) (hE : q_ok E) (w : Wi) (z : Wj) (h1 : okT ((w 37 0), (w 661 0 0), (w 741 0 0)) ((w 743 0 0), (w 744 0 0), (w 742 0 0), (w 745 0 0), (w 746 0 0), (w 747 0 0))) : CsI M_X9_optionHere E [.ref (E.ad 9 0)] w z (P_X9_optionHere w z) := by
  refine csI_of (lv := [(0, .ref (E.ad 9 0))]) hE m_X9_optionHere (Nat.le_of_ble_eq_true rfl) rfl ?_
  intro K A C0 SO
  have C : Cx K E A cX9_optionHere 1 RX9 (some .int) { frames := 7, cells := 0, slots := 0, locals := 222 } := C0
  clear C0
  refine v_aload_n C 0 dX9_optionHere_0 rfl ?_
  refine v_gR C 9 0 0 8 0 (C_m C (u_9 0 (by decide))) k_9 (by decide) x_217 (fun _ _ _ => rfl) dX9_optionHere_1 ?_
  refine v_ldcS C SO (i := 6) (tx := "out") (by decide) dX9_optionHere_4 ?_
  refine v_vsI C SO 8 0 [.ref (E.ad 69 6)] 1 (c_X8_isWord E hE _ _    6 (by decide) (by clear C SO; exact h1.2.2.1)) m_X8_isWord x_603 x_604 x_605 p_X8_isWord rfl ⟨Nat.le_of_ble_eq_true rfl, Nat.le_of_ble_eq_true rfl⟩ (C_m C (u_8 0 (by decide))) k_8 rfl (Nat.le_of_ble_eq_true rfl) dX9_optionHere_6 (fun r1 u1 v1 hp1 => ?_)
  obtain ⟨hr1, hu1⟩ := hp1
  subst hr1
  cases hu1
  refine v_if_eq C 14 dX9_optionHere_9 (by decide) (fun c_9 => ?_) (fun c_9 => ?_)
  · refine v_aload_n C 0 dX9_optionHere_14 rfl ?_
    refine v_gR C 9 0 0 8 0 (C_m C (u_9 0 (by decide))) k_9 (by decide) x_217 (fun _ _ _ => rfl) dX9_optionHere_15 ?_
    refine v_ldcS C SO (i := 7) (tx := "keep") (by decide) dX9_optionHere_18 ?_
    refine v_vsI C SO 8 0 [.ref (E.ad 69 7)] 1 (c_X8_isWord E hE _ _    7 (by decide) (by clear C SO; exact h1.2.2.1)) m_X8_isWord x_603 x_604 x_605 p_X8_isWord rfl ⟨Nat.le_of_ble_eq_true rfl, Nat.le_of_ble_eq_true rfl⟩ (C_m C (u_8 0 (by decide))) k_8 rfl (Nat.le_of_ble_eq_true rfl) dX9_optionHere_20 (fun r2 u2 v2 hp2 => ?_)
    obtain ⟨hr2, hu2⟩ := hp2
    subst hr2
    cases hu2
    refine v_if_eq C 28 dX9_optionHere_23 (by decide) (fun c_23 => ?_) (fun c_23 => ?_)
    · refine v_aload_n C 0 dX9_optionHere_28 rfl ?_
      refine v_gR C 9 0 0 8 0 (C_m C (u_9 0 (by decide))) k_9 (by decide) x_217 (fun _ _ _ => rfl) dX9_optionHere_29 ?_
      refine v_ldcS C SO (i := 8) (tx := "leak") (by decide) dX9_optionHere_32 ?_
      refine v_vsI C SO 8 0 [.ref (E.ad 69 8)] 1 (c_X8_isWord E hE _ _    8 (by decide) (by clear C SO; exact h1.2.2.1)) m_X8_isWord x_603 x_604 x_605 p_X8_isWord rfl ⟨Nat.le_of_ble_eq_true rfl, Nat.le_of_ble_eq_true rfl⟩ (C_m C (u_8 0 (by decide))) k_8 rfl (Nat.le_of_ble_eq_true rfl) dX9_optionHere_34 (fun r3 u3 v3 hp3 => ?_)
      obtain ⟨hr3, hu3⟩ := hp3
      subst hr3
      cases hu3
      refine v_if_eq C 42 dX9_optionHere_37 (by decide) (fun c_37 => ?_) (fun c_37 => ?_)
      · refine v_aload_n C 0 dX9_optionHere_42 rfl ?_
        refine v_gR C 9 0 0 8 0 (C_m C (u_9 0 (by decide))) k_9 (by decide) x_217 (fun _ _ _ => rfl) dX9_optionHere_43 ?_
        refine v_ldcS C SO (i := 9) (tx := "hose") (by decide) dX9_optionHere_46 ?_
        refine v_vsI C SO 8 0 [.ref (E.ad 69 9)] 1 (c_X8_isWord E hE _ _    9 (by decide) (by clear C SO; exact h1.2.2.1)) m_X8_isWord x_603 x_604 x_605 p_X8_isWord rfl ⟨Nat.le_of_ble_eq_true rfl, Nat.le_of_ble_eq_true rfl⟩ (C_m C (u_8 0 (by decide))) k_8 rfl (Nat.le_of_ble_eq_true rfl) dX9_optionHere_48 (fun r4 u4 v4 hp4 => ?_)
        obtain ⟨hr4, hu4⟩ := hp4
        subst hr4
        cases hu4
        refine v_if_eq C 56 dX9_optionHere_51 (by decide) (fun c_51 => ?_) (fun c_51 => ?_)
        · refine v_aload_n C 0 dX9_optionHere_56 rfl ?_
          refine v_gR C 9 0 0 8 0 (C_m C (u_9 0 (by decide))) k_9 (by decide) x_217 (fun _ _ _ => rfl) dX9_optionHere_57 ?_
          refine v_ldcS C SO (i := 10) (tx := "stuck") (by decide) dX9_optionHere_60 ?_
          refine v_vsI C SO 8 0 [.ref (E.ad 69 10)] 1 (c_X8_isWord E hE _ _    10 (by decide) (by clear C SO; exact h1.2.2.1)) m_X8_isWord x_603 x_604 x_605 p_X8_isWord rfl ⟨Nat.le_of_ble_eq_true rfl, Nat.le_of_ble_eq_true rfl⟩ (C_m C (u_8 0 (by decide))) k_8 rfl (Nat.le_of_ble_eq_true rfl) dX9_optionHere_62 (fun r5 u5 v5 hp5 => ?_)
          obtain ⟨hr5, hu5⟩ := hp5
          subst hr5
          cases hu5
          refine v_if_eq C 73 dX9_optionHere_65 (by decide) (fun c_65 => ?_) (fun c_65 => ?_)
          · refine v_iconst (v := (-1)) C dX9_optionHere_73 (by decide) ?_
            exact v_iret C dX9_optionHere_74 ⟨(by clear C SO; simp only [opT]; clear h1; grind), (congr (congrArg Prod.mk rfl) rfl)⟩
          · refine v_bipush (v := 6) C dX9_optionHere_68 (by decide) ?_
            refine v_goto C 74 dX9_optionHere_70 (by decide) ?_
            exact v_iret C dX9_optionHere_74 ⟨(by clear C SO; simp only [opT]; clear h1; grind), (congr (congrArg Prod.mk rfl) rfl)⟩
        · refine v_iconst (v := 5) C dX9_optionHere_54 (by decide) ?_
          exact v_iret C dX9_optionHere_55 ⟨(by clear C SO; simp only [opT]; clear h1; grind), (congr (congrArg Prod.mk rfl) rfl)⟩
      · refine v_iconst (v := 4) C dX9_optionHere_40 (by decide) ?_
        exact v_iret C dX9_optionHere_41 ⟨(by clear C SO; simp only [opT]; clear h1; grind), (congr (congrArg Prod.mk rfl) rfl)⟩
    · refine v_iconst (v := 3) C dX9_optionHere_26 (by decide) ?_
      exact v_iret C dX9_optionHere_27 ⟨(by clear C SO; simp only [opT]; clear h1; grind), (congr (congrArg Prod.mk rfl) rfl)⟩
  · refine v_iconst (v := 2) C dX9_optionHere_12 (by decide) ?_
    exact v_iret C dX9_optionHere_13 ⟨(by clear C SO; simp only [opT]; clear h1; grind), (congr (congrArg Prod.mk rfl) rfl)⟩
abbrev P_X9_takeStuck (w : Wi) (z : Wj) : Int32 → WW → Prop := fun r_ u_ => r_ = ((tsT ((w 37 0), (w 661 0 0), (w 741 0 0)) ((w 743 0 0), (w 744 0 0), (w 742 0 0), (w 745 0 0), (w 746 0 0), (w 747 0 0))).1) ∧ u_ = ((wS (wS (wS (wS (wS (wS w 742 0 (fun _ => (tsT ((w 37 0), (w 661 0 0), (w 741 0 0)) ((w 743 0 0), (w 744 0 0), (w 742 0 0), (w 745 0 0), (w 746 0 0), (w 747 0 0))).2.2.2.1)) 743 0 (fun _ => (tsT ((w 37 0), (w 661 0 0), (w 741 0 0)) ((w 743 0 0), (w 744 0 0), (w 742 0 0), (w 745 0 0), (w 746 0 0), (w 747 0 0))).2.1)) 744 0 (fun _ => (tsT ((w 37 0), (w 661 0 0), (w 741 0 0)) ((w 743 0 0), (w 744 0 0), (w 742 0 0), (w 745 0 0), (w 746 0 0), (w 747 0 0))).2.2.1)) 745 0 (fun _ => (tsT ((w 37 0), (w 661 0 0), (w 741 0 0)) ((w 743 0 0), (w 744 0 0), (w 742 0 0), (w 745 0 0), (w 746 0 0), (w 747 0 0))).2.2.2.2.1)) 746 0 (fun _ => (tsT ((w 37 0), (w 661 0 0), (w 741 0 0)) ((w 743 0 0), (w 744 0 0), (w 742 0 0), (w 745 0 0), (w 746 0 0), (w 747 0 0))).2.2.2.2.2.1)) 747 0 (fun _ => (tsT ((w 37 0), (w 661 0 0), (w 741 0 0)) ((w 743 0 0), (w 744 0 0), (w 742 0 0), (w 745 0 0), (w 746 0 0), (w 747 0 0))).2.2.2.2.2.2)), z)
set_option maxHeartbeats 4000000 in
set_option maxRecDepth 100000 in
theorem c_X9_takeStuck (E : En) (hE : q_ok E) (w : Wi) (z : Wj) (h1 : okT ((w 37 0), (w 661 0 0), (w 741 0 0)) ((w 743 0 0), (w 744 0 0), (w 742 0 0), (w 745 0 0), (w 746 0 0), (w 747 0 0))) : CsI M_X9_takeStuck E [.ref (E.ad 9 0)] w z (P_X9_takeStuck w z) := by
  refine csI_of (lv := [(0, .ref (E.ad 9 0))]) hE m_X9_takeStuck (Nat.le_of_ble_eq_true rfl) rfl ?_
  intro K A C0 SO
  have C : Cx K E A cX9_takeStuck 2 RX9 (some .int) { frames := 7, cells := 0, slots := 0, locals := 222 } := C0
  clear C0
  have hL33 : ∀ (t : Int32), (t = tsV ((w 37 0), (w 661 0 0), (w 741 0 0)) ((w 743 0 0), (w 744 0 0), (w 742 0 0), (w 745 0 0), (w 746 0 0), (w 747 0 0))) → V K E A 2 (QI K E A (P_X9_takeStuck w z)) 33 [(0, .ref (E.ad 9 0))] [.int t] w z := by
    intro t hinv
    have et := hinv
    refine v_istore_n (lv2 := [(1, .int t), (0, .ref (E.ad 9 0))]) C dX9_takeStuck_33 rfl (by decide) rfl ?_
    refine v_iload_n C 0 dX9_takeStuck_34 rfl ?_
    refine v_iconst (v := (-1)) C dX9_takeStuck_35 (by decide) ?_
    refine v_ic_ne C 51 dX9_takeStuck_36 (by decide) (fun c_36 => ?_) (fun c_36 => ?_)
    · refine v_aload_n C 1 dX9_takeStuck_51 rfl ?_
      refine v_gR C 9 0 0 8 0 (C_m C (u_9 0 (by decide))) k_9 (by decide) x_217 (fun _ _ _ => rfl) dX9_takeStuck_52 ?_
      refine v_vV C 8 0 [] 0 (c_X8_read E hE _ _    (by clear C SO; assumption)) m_X8_read x_663 x_580 x_581 p_X8_read rfl ⟨Nat.le_of_ble_eq_true rfl, Nat.le_of_ble_eq_true rfl⟩ (C_m C (u_8 0 (by decide))) k_8 rfl (Nat.le_of_ble_eq_true rfl) dX9_takeStuck_55 (fun u1 v1 hp1 => ?_)
      have hu1 := hp1
      cases hu1
      refine v_iload_n C 0 dX9_takeStuck_58 rfl ?_
      refine v_tS C 746 0 (by decide) ?_
      refine v_tS C 747 0 (by decide) ?_
      refine v_w (w2 := (wS (wS (wS (wS (wS (wS w 742 0 (fun _ => (rdT ((w 37 0), (w 661 0 0), (w 741 0 0)) ((w 743 0 0), (w 744 0 0), (w 742 0 0), (w 745 0 0), (w 746 0 0), (w 747 0 0))).2.2.1)) 743 0 (fun _ => (rdT ((w 37 0), (w 661 0 0), (w 741 0 0)) ((w 743 0 0), (w 744 0 0), (w 742 0 0), (w 745 0 0), (w 746 0 0), (w 747 0 0))).1)) 744 0 (fun _ => (rdT ((w 37 0), (w 661 0 0), (w 741 0 0)) ((w 743 0 0), (w 744 0 0), (w 742 0 0), (w 745 0 0), (w 746 0 0), (w 747 0 0))).2.1)) 745 0 (fun _ => (rdT ((w 37 0), (w 661 0 0), (w 741 0 0)) ((w 743 0 0), (w 744 0 0), (w 742 0 0), (w 745 0 0), (w 746 0 0), (w 747 0 0))).2.2.2.1)) 746 0 (fun _ => (w 746 0 0))) 747 0 (fun _ => (w 747 0 0)))) (by simp only [wS_s, wS_t, wS_a, ne_eq, Nat.reduceEqDiff, not_false_eq_true, wS_wS, wS_p, wS_pp, Nat.reduceLT, id_eq]) ?_
      exact v_iret C dX9_takeStuck_59 ⟨(by clear C SO; simp only [tsT]; rw [← et]; (first | rw [if_pos (by assumption)] | rw [if_neg (by assumption)]); first | done | assumption | rfl | (dsimp only; rw [rdT_fp])), (congr (congrArg Prod.mk (wS_eq (wS_eq (wS_eq (wS_eq (wS_eq (wS_eq rfl (fu_eq (by clear C SO; simp only [tsT]; rw [← et]; (first | rw [if_pos (by assumption)] | rw [if_neg (by assumption)]); first | done | assumption | rfl | (dsimp only; rw [rdT_fp])))) (fu_eq (by clear C SO; simp only [tsT]; rw [← et]; (first | rw [if_pos (by assumption)] | rw [if_neg (by assumption)]); first | done | assumption | rfl | (dsimp only; rw [rdT_fp])))) (fu_eq (by clear C SO; simp only [tsT]; rw [← et]; (first | rw [if_pos (by assumption)] | rw [if_neg (by assumption)]); first | done | assumption | rfl | (dsimp only; rw [rdT_fp])))) (fu_eq (by clear C SO; simp only [tsT]; rw [← et]; (first | rw [if_pos (by assumption)] | rw [if_neg (by assumption)]); first | done | assumption | rfl | (dsimp only; rw [rdT_fp])))) (fu_eq (by clear C SO; simp only [tsT]; rw [← et]; (first | rw [if_pos (by assumption)] | rw [if_neg (by assumption)]); first | done | assumption | rfl | (dsimp only; rw [rdT_fp])))) (fu_eq (by clear C SO; simp only [tsT]; rw [← et]; (first | rw [if_pos (by assumption)] | rw [if_neg (by assumption)]); first | done | assumption | rfl | (dsimp only; rw [rdT_fp]))))) rfl)⟩
    · refine v_aload_n C 1 dX9_takeStuck_39 rfl ?_
      refine v_gR C 9 0 0 8 0 (C_m C (u_9 0 (by decide))) k_9 (by decide) x_217 (fun _ _ _ => rfl) dX9_takeStuck_40 ?_
      refine v_iconst (v := 1) C dX9_takeStuck_43 (by decide) ?_
      refine v_vI C 8 0 [.int 1] 1 (c_X8_refuse E hE _ _  1  ) m_X8_refuse x_659 x_660 x_661 p_X8_refuse rfl ⟨Nat.le_of_ble_eq_true rfl, Nat.le_of_ble_eq_true rfl⟩ (C_m C (u_8 0 (by decide))) k_8 rfl (Nat.le_of_ble_eq_true rfl) dX9_takeStuck_44 (fun r2 u2 v2 hp2 => ?_)
      obtain ⟨hr2, hu2⟩ := hp2
      subst hr2
      cases hu2
      refine v_pop C dX9_takeStuck_47 rfl ?_
      refine v_goto C 58 dX9_takeStuck_48 (by decide) ?_
      refine v_iload_n C 0 dX9_takeStuck_58 rfl ?_
      refine v_tS C 742 0 (by decide) ?_
      refine v_tS C 743 0 (by decide) ?_
      refine v_tS C 744 0 (by decide) ?_
      refine v_tS C 745 0 (by decide) ?_
      refine v_w (w2 := (wS (wS (wS (wS (wS (wS w 742 0 (fun _ => (w 742 0 0))) 743 0 (fun _ => (w 743 0 0))) 744 0 (fun _ => (w 744 0 0))) 745 0 (fun _ => (w 745 0 0))) 746 0 (fun _ => 1)) 747 0 (fun _ => (w 743 0 0)))) (by simp only [wS_s, wS_t, wS_a, ne_eq, Nat.reduceEqDiff, not_false_eq_true, wS_wS, wS_p, wS_pp, Nat.reduceLT, id_eq]) ?_
      exact v_iret C dX9_takeStuck_59 ⟨(by clear C SO; simp only [tsT]; rw [← et]; (first | rw [if_pos (by assumption)] | rw [if_neg (by assumption)]); first | done | assumption | rfl | (dsimp only; rw [rdT_fp])), (congr (congrArg Prod.mk (wS_eq (wS_eq (wS_eq (wS_eq (wS_eq (wS_eq rfl (fu_eq (by clear C SO; simp only [tsT]; rw [← et]; (first | rw [if_pos (by assumption)] | rw [if_neg (by assumption)]); first | done | assumption | rfl | (dsimp only; rw [rdT_fp])))) (fu_eq (by clear C SO; simp only [tsT]; rw [← et]; (first | rw [if_pos (by assumption)] | rw [if_neg (by assumption)]); first | done | assumption | rfl | (dsimp only; rw [rdT_fp])))) (fu_eq (by clear C SO; simp only [tsT]; rw [← et]; (first | rw [if_pos (by assumption)] | rw [if_neg (by assumption)]); first | done | assumption | rfl | (dsimp only; rw [rdT_fp])))) (fu_eq (by clear C SO; simp only [tsT]; rw [← et]; (first | rw [if_pos (by assumption)] | rw [if_neg (by assumption)]); first | done | assumption | rfl | (dsimp only; rw [rdT_fp])))) (fu_eq (by clear C SO; simp only [tsT]; rw [← et]; (first | rw [if_pos (by assumption)] | rw [if_neg (by assumption)]); first | done | assumption | rfl | (dsimp only; rw [rdT_fp])))) (fu_eq (by clear C SO; simp only [tsT]; rw [← et]; (first | rw [if_pos (by assumption)] | rw [if_neg (by assumption)]); first | done | assumption | rfl | (dsimp only; rw [rdT_fp]))))) rfl)⟩
  refine v_aload_n C 0 dX9_takeStuck_0 rfl ?_
  refine v_gR C 9 0 0 8 0 (C_m C (u_9 0 (by decide))) k_9 (by decide) x_217 (fun _ _ _ => rfl) dX9_takeStuck_1 ?_
  refine v_ldcS C SO (i := 11) (tx := "on") (by decide) dX9_takeStuck_4 ?_
  refine v_vsI C SO 8 0 [.ref (E.ad 69 11)] 1 (c_X8_isWord E hE _ _    11 (by decide) (by clear C SO hL33; exact h1.2.2.1)) m_X8_isWord x_603 x_604 x_605 p_X8_isWord rfl ⟨Nat.le_of_ble_eq_true rfl, Nat.le_of_ble_eq_true rfl⟩ (C_m C (u_8 0 (by decide))) k_8 rfl (Nat.le_of_ble_eq_true rfl) dX9_takeStuck_6 (fun r3 u3 v3 hp3 => ?_)
  obtain ⟨hr3, hu3⟩ := hp3
  subst hr3
  cases hu3
  refine v_if_eq C 16 dX9_takeStuck_9 (by decide) (fun c_9 => ?_) (fun c_9 => ?_)
  · refine v_aload_n C 0 dX9_takeStuck_16 rfl ?_
    refine v_gR C 9 0 0 8 0 (C_m C (u_9 0 (by decide))) k_9 (by decide) x_217 (fun _ _ _ => rfl) dX9_takeStuck_17 ?_
    refine v_ldcS C SO (i := 12) (tx := "off") (by decide) dX9_takeStuck_20 ?_
    refine v_vsI C SO 8 0 [.ref (E.ad 69 12)] 1 (c_X8_isWord E hE _ _    12 (by decide) (by clear C SO hL33; exact h1.2.2.1)) m_X8_isWord x_603 x_604 x_605 p_X8_isWord rfl ⟨Nat.le_of_ble_eq_true rfl, Nat.le_of_ble_eq_true rfl⟩ (C_m C (u_8 0 (by decide))) k_8 rfl (Nat.le_of_ble_eq_true rfl) dX9_takeStuck_22 (fun r4 u4 v4 hp4 => ?_)
    obtain ⟨hr4, hu4⟩ := hp4
    subst hr4
    cases hu4
    refine v_if_eq C 32 dX9_takeStuck_25 (by decide) (fun c_25 => ?_) (fun c_25 => ?_)
    · refine v_iconst (v := (-1)) C dX9_takeStuck_32 (by decide) ?_
      exact hL33 (-1) (by clear C SO hL33; simp only [tsV]; clear h1; grind)
    · refine v_iconst (v := 2) C dX9_takeStuck_28 (by decide) ?_
      refine v_goto C 33 dX9_takeStuck_29 (by decide) ?_
      exact hL33 2 (by clear C SO hL33; simp only [tsV]; clear h1; grind)
  · refine v_iconst (v := 1) C dX9_takeStuck_12 (by decide) ?_
    refine v_goto C 33 dX9_takeStuck_13 (by decide) ?_
    exact hL33 1 (by clear C SO hL33; simp only [tsV]; clear h1; grind)
abbrev P_X9_takeOnce (w : Wi) (z : Wj) (bf : Int32) (l1 : Int32) (m1 : Int32) : Int32 → WW → Prop := fun r_ u_ => r_ = ((toT ((w 37 0), (w 661 0 0), (w 741 0 0)) bf l1 m1 ((w 743 0 0), (w 744 0 0), (w 742 0 0), (w 745 0 0), (w 746 0 0), (w 747 0 0))).1) ∧ u_ = ((wS (wS (wS (wS (wS (wS w 742 0 (fun _ => (toT ((w 37 0), (w 661 0 0), (w 741 0 0)) bf l1 m1 ((w 743 0 0), (w 744 0 0), (w 742 0 0), (w 745 0 0), (w 746 0 0), (w 747 0 0))).2.2.2.1)) 743 0 (fun _ => (toT ((w 37 0), (w 661 0 0), (w 741 0 0)) bf l1 m1 ((w 743 0 0), (w 744 0 0), (w 742 0 0), (w 745 0 0), (w 746 0 0), (w 747 0 0))).2.1)) 744 0 (fun _ => (toT ((w 37 0), (w 661 0 0), (w 741 0 0)) bf l1 m1 ((w 743 0 0), (w 744 0 0), (w 742 0 0), (w 745 0 0), (w 746 0 0), (w 747 0 0))).2.2.1)) 745 0 (fun _ => (toT ((w 37 0), (w 661 0 0), (w 741 0 0)) bf l1 m1 ((w 743 0 0), (w 744 0 0), (w 742 0 0), (w 745 0 0), (w 746 0 0), (w 747 0 0))).2.2.2.2.1)) 746 0 (fun _ => (toT ((w 37 0), (w 661 0 0), (w 741 0 0)) bf l1 m1 ((w 743 0 0), (w 744 0 0), (w 742 0 0), (w 745 0 0), (w 746 0 0), (w 747 0 0))).2.2.2.2.2.1)) 747 0 (fun _ => (toT ((w 37 0), (w 661 0 0), (w 741 0 0)) bf l1 m1 ((w 743 0 0), (w 744 0 0), (w 742 0 0), (w 745 0 0), (w 746 0 0), (w 747 0 0))).2.2.2.2.2.2)), z)
set_option maxHeartbeats 4000000 in
set_option maxRecDepth 100000 in
theorem c_X9_takeOnce (E : En) (hE : q_ok E) (w : Wi) (z : Wj) (bf : Int32) (l1 : Int32) (m1 : Int32) (h1 : okT ((w 37 0), (w 661 0 0), (w 741 0 0)) ((w 743 0 0), (w 744 0 0), (w 742 0 0), (w 745 0 0), (w 746 0 0), (w 747 0 0))) : CtI M_X9_takeOnce E [.ref (E.ad 9 0), .int bf, .int l1, .int m1] w z (P_X9_takeOnce w z bf l1 m1) := by
  refine ctI_of (lv := [(0, .ref (E.ad 9 0)), (1, .int bf), (2, .int l1), (3, .int m1)]) hE m_X9_takeOnce (Nat.le_of_ble_eq_true rfl) rfl ?_
  intro K A C0
  have C : Cx K E A cX9_takeOnce 4 RX9 (some .int) { frames := 4, cells := 0, slots := 0, locals := 87 } := C0
  clear C0
  refine v_iload_n C 1 dX9_takeOnce_0 rfl ?_
  refine v_iconst (v := (-1)) C dX9_takeOnce_1 (by decide) ?_
  refine v_ic_eq C 16 dX9_takeOnce_2 (by decide) (fun c_2 => ?_) (fun c_2 => ?_)
  · refine v_aload_n C 0 dX9_takeOnce_16 rfl ?_
    refine v_gR C 9 0 0 8 0 (C_m C (u_9 0 (by decide))) k_9 (by decide) x_217 (fun _ _ _ => rfl) dX9_takeOnce_17 ?_
    refine v_vV C 8 0 [] 0 (c_X8_read E hE _ _    (by clear C; assumption)) m_X8_read x_663 x_580 x_581 p_X8_read rfl ⟨Nat.le_of_ble_eq_true rfl, Nat.le_of_ble_eq_true rfl⟩ (C_m C (u_8 0 (by decide))) k_8 rfl (Nat.le_of_ble_eq_true rfl) dX9_takeOnce_20 (fun u1 v1 hp1 => ?_)
    have hu1 := hp1
    cases hu1
    have hL23 : ∀ (a1 : Int32) (a2 : Int32) (a3 : Int32) (a4 : Int32) (a5 : Int32) (a6 : Int32), ((a1, a2, a3, a4, a5, a6) = rdT ((w 37 0), (w 661 0 0), (w 741 0 0)) ((w 743 0 0), (w 744 0 0), (w 742 0 0), (w 745 0 0), (w 746 0 0), (w 747 0 0))) → V K E A 4 (QI K E A (P_X9_takeOnce w z bf l1 m1)) 23 [(0, .ref (E.ad 9 0)), (1, .int bf), (2, .int l1), (3, .int m1)] [] (wS (wS (wS (wS (wS (wS w 742 0 (fun _ => a3)) 743 0 (fun _ => a1)) 744 0 (fun _ => a2)) 745 0 (fun _ => a4)) 746 0 (fun _ => a5)) 747 0 (fun _ => a6)) z := by
      intro a1 a2 a3 a4 a5 a6 hinv
      have hA := hinv
      refine v_aload_n C 0 dX9_takeOnce_23 rfl ?_
      refine v_gR C 9 0 0 8 0 (C_m C (u_9 0 (by decide))) k_9 (by decide) x_217 (fun _ _ _ => rfl) dX9_takeOnce_24 ?_
      refine v_iload_n C 2 dX9_takeOnce_27 rfl ?_
      refine v_iload_n C 3 dX9_takeOnce_28 rfl ?_
      refine v_vI C 8 0 [.int l1, .int m1] 2 (c_X8_takeNumber E hE _ _  l1 m1  (by clear C; (try simp only [wS_s, wS_t, wS_a, ne_eq, Nat.reduceEqDiff, not_false_eq_true]); rw [hA]; exact okT_rd h1)) m_X8_takeNumber x_664 x_665 x_666 p_X8_takeNumber rfl ⟨Nat.le_of_ble_eq_true rfl, Nat.le_of_ble_eq_true rfl⟩ (C_m C (u_8 0 (by decide))) k_8 rfl (Nat.le_of_ble_eq_true rfl) dX9_takeOnce_29 (fun r2 u2 v2 hp2 => ?_)
      obtain ⟨hr2, hu2⟩ := hp2
      subst hr2
      cases hu2
      refine v_i (y := (tnT ((w 37 0), (w 661 0 0), (w 741 0 0)) l1 m1 (a1, a2, a3, a4, a5, a6)).1) (by simp only [wS_s, wS_t, wS_a, ne_eq, Nat.reduceEqDiff, not_false_eq_true]) ?_
      refine v_w (w2 := (wS (wS (wS (wS (wS (wS w 742 0 (fun _ => (tnT ((w 37 0), (w 661 0 0), (w 741 0 0)) l1 m1 (a1, a2, a3, a4, a5, a6)).2.2.2.1)) 743 0 (fun _ => (tnT ((w 37 0), (w 661 0 0), (w 741 0 0)) l1 m1 (a1, a2, a3, a4, a5, a6)).2.1)) 744 0 (fun _ => (tnT ((w 37 0), (w 661 0 0), (w 741 0 0)) l1 m1 (a1, a2, a3, a4, a5, a6)).2.2.1)) 745 0 (fun _ => (tnT ((w 37 0), (w 661 0 0), (w 741 0 0)) l1 m1 (a1, a2, a3, a4, a5, a6)).2.2.2.2.1)) 746 0 (fun _ => (tnT ((w 37 0), (w 661 0 0), (w 741 0 0)) l1 m1 (a1, a2, a3, a4, a5, a6)).2.2.2.2.2.1)) 747 0 (fun _ => (tnT ((w 37 0), (w 661 0 0), (w 741 0 0)) l1 m1 (a1, a2, a3, a4, a5, a6)).2.2.2.2.2.2))) (by simp only [wS_s, wS_t, wS_a, ne_eq, Nat.reduceEqDiff, not_false_eq_true, wS_wS, wS_p, wS_pp, Nat.reduceLT, id_eq]) ?_
      exact v_iret C dX9_takeOnce_32 ⟨(by clear C; simp only [toT]; rw [if_neg (not_not_intro (by assumption)), ← hA]; first | done | rfl), (congr (congrArg Prod.mk (wS_eq (wS_eq (wS_eq (wS_eq (wS_eq (wS_eq rfl (fu_eq (by clear C; simp only [toT]; rw [if_neg (not_not_intro (by assumption)), ← hA]; first | done | rfl))) (fu_eq (by clear C; simp only [toT]; rw [if_neg (not_not_intro (by assumption)), ← hA]; first | done | rfl))) (fu_eq (by clear C; simp only [toT]; rw [if_neg (not_not_intro (by assumption)), ← hA]; first | done | rfl))) (fu_eq (by clear C; simp only [toT]; rw [if_neg (not_not_intro (by assumption)), ← hA]; first | done | rfl))) (fu_eq (by clear C; simp only [toT]; rw [if_neg (not_not_intro (by assumption)), ← hA]; first | done | rfl))) (fu_eq (by clear C; simp only [toT]; rw [if_neg (not_not_intro (by assumption)), ← hA]; first | done | rfl)))) rfl)⟩
    refine v_tS C 746 0 (by decide) ?_
    refine v_tS C 747 0 (by decide) ?_
    refine v_w (w2 := (wS (wS (wS (wS (wS (wS w 742 0 (fun _ => (rdT ((w 37 0), (w 661 0 0), (w 741 0 0)) ((w 743 0 0), (w 744 0 0), (w 742 0 0), (w 745 0 0), (w 746 0 0), (w 747 0 0))).2.2.1)) 743 0 (fun _ => (rdT ((w 37 0), (w 661 0 0), (w 741 0 0)) ((w 743 0 0), (w 744 0 0), (w 742 0 0), (w 745 0 0), (w 746 0 0), (w 747 0 0))).1)) 744 0 (fun _ => (rdT ((w 37 0), (w 661 0 0), (w 741 0 0)) ((w 743 0 0), (w 744 0 0), (w 742 0 0), (w 745 0 0), (w 746 0 0), (w 747 0 0))).2.1)) 745 0 (fun _ => (rdT ((w 37 0), (w 661 0 0), (w 741 0 0)) ((w 743 0 0), (w 744 0 0), (w 742 0 0), (w 745 0 0), (w 746 0 0), (w 747 0 0))).2.2.2.1)) 746 0 (fun _ => (w 746 0 0))) 747 0 (fun _ => (w 747 0 0)))) (by simp only [wS_s, wS_t, wS_a, ne_eq, Nat.reduceEqDiff, not_false_eq_true, wS_wS, wS_p, wS_pp, Nat.reduceLT, id_eq]) ?_
    exact hL23 ((rdT ((w 37 0), (w 661 0 0), (w 741 0 0)) ((w 743 0 0), (w 744 0 0), (w 742 0 0), (w 745 0 0), (w 746 0 0), (w 747 0 0))).1) ((rdT ((w 37 0), (w 661 0 0), (w 741 0 0)) ((w 743 0 0), (w 744 0 0), (w 742 0 0), (w 745 0 0), (w 746 0 0), (w 747 0 0))).2.1) ((rdT ((w 37 0), (w 661 0 0), (w 741 0 0)) ((w 743 0 0), (w 744 0 0), (w 742 0 0), (w 745 0 0), (w 746 0 0), (w 747 0 0))).2.2.1) ((rdT ((w 37 0), (w 661 0 0), (w 741 0 0)) ((w 743 0 0), (w 744 0 0), (w 742 0 0), (w 745 0 0), (w 746 0 0), (w 747 0 0))).2.2.2.1) (w 746 0 0) (w 747 0 0) (by clear C hL23; exact rdT_eta _ _ _ _ _ _ _)
  · refine v_aload_n C 0 dX9_takeOnce_5 rfl ?_
    refine v_gR C 9 0 0 8 0 (C_m C (u_9 0 (by decide))) k_9 (by decide) x_217 (fun _ _ _ => rfl) dX9_takeOnce_6 ?_
    refine v_iconst (v := 3) C dX9_takeOnce_9 (by decide) ?_
    refine v_vI C 8 0 [.int 3] 1 (c_X8_refuse E hE _ _  3  ) m_X8_refuse x_659 x_660 x_661 p_X8_refuse rfl ⟨Nat.le_of_ble_eq_true rfl, Nat.le_of_ble_eq_true rfl⟩ (C_m C (u_8 0 (by decide))) k_8 rfl (Nat.le_of_ble_eq_true rfl) dX9_takeOnce_10 (fun r3 u3 v3 hp3 => ?_)
    obtain ⟨hr3, hu3⟩ := hp3
    subst hr3
    cases hu3
    refine v_pop C dX9_takeOnce_13 rfl ?_
    refine v_iconst (v := (-1)) C dX9_takeOnce_14 (by decide) ?_
    refine v_tS C 742 0 (by decide) ?_
    refine v_tS C 743 0 (by decide) ?_
    refine v_tS C 744 0 (by decide) ?_
    refine v_tS C 745 0 (by decide) ?_
    refine v_w (w2 := (wS (wS (wS (wS (wS (wS w 742 0 (fun _ => (w 742 0 0))) 743 0 (fun _ => (w 743 0 0))) 744 0 (fun _ => (w 744 0 0))) 745 0 (fun _ => (w 745 0 0))) 746 0 (fun _ => 3)) 747 0 (fun _ => (w 743 0 0)))) (by simp only [wS_s, wS_t, wS_a, ne_eq, Nat.reduceEqDiff, not_false_eq_true, wS_wS, wS_p, wS_pp, Nat.reduceLT, id_eq]) ?_
    exact v_iret C dX9_takeOnce_15 ⟨(by clear C; simp only [toT]; rw [if_pos (by assumption)]; first | done | rfl), (congr (congrArg Prod.mk (wS_eq (wS_eq (wS_eq (wS_eq (wS_eq (wS_eq rfl (fu_eq (by clear C; simp only [toT]; rw [if_pos (by assumption)]; first | done | rfl))) (fu_eq (by clear C; simp only [toT]; rw [if_pos (by assumption)]; first | done | rfl))) (fu_eq (by clear C; simp only [toT]; rw [if_pos (by assumption)]; first | done | rfl))) (fu_eq (by clear C; simp only [toT]; rw [if_pos (by assumption)]; first | done | rfl))) (fu_eq (by clear C; simp only [toT]; rw [if_pos (by assumption)]; first | done | rfl))) (fu_eq (by clear C; simp only [toT]; rw [if_pos (by assumption)]; first | done | rfl)))) rfl)⟩
