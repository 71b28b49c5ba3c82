abbrev P_X12_isFull (w : Wi) (z : Wj) : Int32 → WW → Prop := fun r_ u_ => r_ = (kyG ((w 1065 0 0), (w 1066 0 0), (w 1067 0 0), (w 1068 0 0), (z 1071 0 0)) (spF 102 117 108 108 0)) ∧ u_ = (w, z)
set_option maxHeartbeats 4000000 in
set_option maxRecDepth 100000 in
theorem c_X12_isFull (E : En) (hM : q_okM E) (w : Wi) (z : Wj) : CtI M_X12_isFull E [.ref (E.ad 12 0)] w z (P_X12_isFull w z) := by
  have hE := hM.1
  refine ctI_of (lv := [(0, .ref (E.ad 12 0))]) hE m_X12_isFull (Nat.le_of_ble_eq_true rfl) rfl ?_
  intro K A C0
  have C : Cx K E A cX12_isFull 1 RX12 (some .boolean) { frames := 1, cells := 0, slots := 0, locals := 26 } := C0
  clear C0
  refine v_aload_n C 0 dX12_isFull_0 rfl ?_
  refine v_bipush (v := 102) C dX12_isFull_1 (by decide) ?_
  refine v_bipush (v := 117) C dX12_isFull_3 (by decide) ?_
  refine v_bipush (v := 108) C dX12_isFull_5 (by decide) ?_
  refine v_bipush (v := 108) C dX12_isFull_7 (by decide) ?_
  refine v_iconst (v := 0) C dX12_isFull_9 (by decide) ?_
  refine v_sJ C [.int 102, .int 117, .int 108, .int 108, .int 0] 5 (c_X12_spelt E hM _ _  102 117 108 108 0  ) m_X12_spelt x_1511 x_1512 p_X12_spelt rfl ⟨Nat.le_of_ble_eq_true rfl, Nat.le_of_ble_eq_true rfl⟩ rfl (Nat.le_of_ble_eq_true rfl) dX12_isFull_10 (fun r1 u1 v1 hp1 => ?_)
  obtain ⟨hr1, hu1⟩ := hp1
  subst hr1
  cases hu1
  refine v_vI C 12 0 [.long (spF (102 : Int32) (117 : Int32) (108 : Int32) (108 : Int32) (0 : Int32))] 1 (c_X12_isKey E hM _ _  (spF (102 : Int32) (117 : Int32) (108 : Int32) (108 : Int32) (0 : Int32))  ) m_X12_isKey x_1514 x_1516 x_42 p_X12_isKey rfl ⟨Nat.le_of_ble_eq_true rfl, Nat.le_of_ble_eq_true rfl⟩ (hM.2 _ (u_12 0 (by decide))) k_12 rfl (Nat.le_of_ble_eq_true rfl) dX12_isFull_13 (fun r2 u2 v2 hp2 => ?_)
  obtain ⟨hr2, hu2⟩ := hp2
  subst hr2
  cases hu2
  exact v_zret C dX12_isFull_16 (by exact nb ite_01) ⟨(by clear C; rfl), (congr (congrArg Prod.mk rfl) rfl)⟩
abbrev P_X12_isFeed (w : Wi) (z : Wj) : Int32 → WW → Prop := fun r_ u_ => r_ = (kyG ((w 1065 0 0), (w 1066 0 0), (w 1067 0 0), (w 1068 0 0), (z 1071 0 0)) (spF 102 101 101 100 0)) ∧ u_ = (w, z)
set_option maxHeartbeats 4000000 in
set_option maxRecDepth 100000 in
theorem c_X12_isFeed (E : En) (hM : q_okM E) (w : Wi) (z : Wj) : CtI M_X12_isFeed E [.ref (E.ad 12 0)] w z (P_X12_isFeed w z) := by
  have hE := hM.1
  refine ctI_of (lv := [(0, .ref (E.ad 12 0))]) hE m_X12_isFeed (Nat.le_of_ble_eq_true rfl) rfl ?_
  intro K A C0
  have C : Cx K E A cX12_isFeed 1 RX12 (some .boolean) { frames := 1, cells := 0, slots := 0, locals := 26 } := C0
  clear C0
  refine v_aload_n C 0 dX12_isFeed_0 rfl ?_
  refine v_bipush (v := 102) C dX12_isFeed_1 (by decide) ?_
  refine v_bipush (v := 101) C dX12_isFeed_3 (by decide) ?_
  refine v_bipush (v := 101) C dX12_isFeed_5 (by decide) ?_
  refine v_bipush (v := 100) C dX12_isFeed_7 (by decide) ?_
  refine v_iconst (v := 0) C dX12_isFeed_9 (by decide) ?_
  refine v_sJ C [.int 102, .int 101, .int 101, .int 100, .int 0] 5 (c_X12_spelt E hM _ _  102 101 101 100 0  ) m_X12_spelt x_1511 x_1512 p_X12_spelt rfl ⟨Nat.le_of_ble_eq_true rfl, Nat.le_of_ble_eq_true rfl⟩ rfl (Nat.le_of_ble_eq_true rfl) dX12_isFeed_10 (fun r1 u1 v1 hp1 => ?_)
  obtain ⟨hr1, hu1⟩ := hp1
  subst hr1
  cases hu1
  refine v_vI C 12 0 [.long (spF (102 : Int32) (101 : Int32) (101 : Int32) (100 : Int32) (0 : Int32))] 1 (c_X12_isKey E hM _ _  (spF (102 : Int32) (101 : Int32) (101 : Int32) (100 : Int32) (0 : Int32))  ) m_X12_isKey x_1514 x_1516 x_42 p_X12_isKey rfl ⟨Nat.le_of_ble_eq_true rfl, Nat.le_of_ble_eq_true rfl⟩ (hM.2 _ (u_12 0 (by decide))) k_12 rfl (Nat.le_of_ble_eq_true rfl) dX12_isFeed_13 (fun r2 u2 v2 hp2 => ?_)
  obtain ⟨hr2, hu2⟩ := hp2
  subst hr2
  cases hu2
  exact v_zret C dX12_isFeed_16 (by exact nb ite_01) ⟨(by clear C; rfl), (congr (congrArg Prod.mk rfl) rfl)⟩
abbrev P_X12_isCar (w : Wi) (z : Wj) : Int32 → WW → Prop := fun r_ u_ => r_ = (kyG ((w 1065 0 0), (w 1066 0 0), (w 1067 0 0), (w 1068 0 0), (z 1071 0 0)) (spF 99 97 114 0 0)) ∧ u_ = (w, z)
set_option maxHeartbeats 4000000 in
set_option maxRecDepth 100000 in
theorem c_X12_isCar (E : En) (hM : q_okM E) (w : Wi) (z : Wj) : CtI M_X12_isCar E [.ref (E.ad 12 0)] w z (P_X12_isCar w z) := by
  have hE := hM.1
  refine ctI_of (lv := [(0, .ref (E.ad 12 0))]) hE m_X12_isCar (Nat.le_of_ble_eq_true rfl) rfl ?_
  intro K A C0
  have C : Cx K E A cX12_isCar 1 RX12 (some .boolean) { frames := 1, cells := 0, slots := 0, locals := 26 } := C0
  clear C0
  refine v_aload_n C 0 dX12_isCar_0 rfl ?_
  refine v_bipush (v := 99) C dX12_isCar_1 (by decide) ?_
  refine v_bipush (v := 97) C dX12_isCar_3 (by decide) ?_
  refine v_bipush (v := 114) C dX12_isCar_5 (by decide) ?_
  refine v_iconst (v := 0) C dX12_isCar_7 (by decide) ?_
  refine v_iconst (v := 0) C dX12_isCar_8 (by decide) ?_
  refine v_sJ C [.int 99, .int 97, .int 114, .int 0, .int 0] 5 (c_X12_spelt E hM _ _  99 97 114 0 0  ) m_X12_spelt x_1511 x_1512 p_X12_spelt rfl ⟨Nat.le_of_ble_eq_true rfl, Nat.le_of_ble_eq_true rfl⟩ rfl (Nat.le_of_ble_eq_true rfl) dX12_isCar_9 (fun r1 u1 v1 hp1 => ?_)
  obtain ⟨hr1, hu1⟩ := hp1
  subst hr1
  cases hu1
  refine v_vI C 12 0 [.long (spF (99 : Int32) (97 : Int32) (114 : Int32) (0 : Int32) (0 : Int32))] 1 (c_X12_isKey E hM _ _  (spF (99 : Int32) (97 : Int32) (114 : Int32) (0 : Int32) (0 : Int32))  ) m_X12_isKey x_1514 x_1516 x_42 p_X12_isKey rfl ⟨Nat.le_of_ble_eq_true rfl, Nat.le_of_ble_eq_true rfl⟩ (hM.2 _ (u_12 0 (by decide))) k_12 rfl (Nat.le_of_ble_eq_true rfl) dX12_isCar_12 (fun r2 u2 v2 hp2 => ?_)
  obtain ⟨hr2, hu2⟩ := hp2
  subst hr2
  cases hu2
  exact v_zret C dX12_isCar_15 (by exact nb ite_01) ⟨(by clear C; rfl), (congr (congrArg Prod.mk rfl) rfl)⟩
abbrev P_X12_optionAtHand (w : Wi) (z : Wj) : Int32 → WW → Prop := fun r_ u_ => r_ = (opG ((w 1065 0 0), (w 1066 0 0), (w 1067 0 0), (w 1068 0 0), (z 1071 0 0))) ∧ u_ = (w, z)
set_option maxHeartbeats 4000000 in
set_option maxRecDepth 100000 in
theorem c_X12_optionAtHand (E : En) (hM : q_okM E) (w : Wi) (z : Wj) : CtI M_X12_optionAtHand E [.ref (E.ad 12 0)] w z (P_X12_optionAtHand w z) := by
  have hE := hM.1
  refine ctI_of (lv := [(0, .ref (E.ad 12 0))]) hE m_X12_optionAtHand (Nat.le_of_ble_eq_true rfl) rfl ?_
  intro K A C0
  have C : Cx K E A cX12_optionAtHand 1 RX12 (some .int) { frames := 1, cells := 0, slots := 0, locals := 26 } := C0
  clear C0
  refine v_aload_n C 0 dX12_optionAtHand_0 rfl ?_
  refine v_bipush (v := 111) C dX12_optionAtHand_1 (by decide) ?_
  refine v_bipush (v := 117) C dX12_optionAtHand_3 (by decide) ?_
  refine v_bipush (v := 116) C dX12_optionAtHand_5 (by decide) ?_
  refine v_iconst (v := 0) C dX12_optionAtHand_7 (by decide) ?_
  refine v_iconst (v := 0) C dX12_optionAtHand_8 (by decide) ?_
  refine v_sJ C [.int 111, .int 117, .int 116, .int 0, .int 0] 5 (c_X12_spelt E hM _ _  111 117 116 0 0  ) m_X12_spelt x_1511 x_1512 p_X12_spelt rfl ⟨Nat.le_of_ble_eq_true rfl, Nat.le_of_ble_eq_true rfl⟩ rfl (Nat.le_of_ble_eq_true rfl) dX12_optionAtHand_9 (fun r1 u1 v1 hp1 => ?_)
  obtain ⟨hr1, hu1⟩ := hp1
  subst hr1
  cases hu1
  refine v_vI C 12 0 [.long (spF (111 : Int32) (117 : Int32) (116 : Int32) (0 : Int32) (0 : Int32))] 1 (c_X12_isKey E hM _ _  (spF (111 : Int32) (117 : Int32) (116 : Int32) (0 : Int32) (0 : Int32))  ) m_X12_isKey x_1514 x_1516 x_42 p_X12_isKey rfl ⟨Nat.le_of_ble_eq_true rfl, Nat.le_of_ble_eq_true rfl⟩ (hM.2 _ (u_12 0 (by decide))) k_12 rfl (Nat.le_of_ble_eq_true rfl) dX12_optionAtHand_12 (fun r2 u2 v2 hp2 => ?_)
  obtain ⟨hr2, hu2⟩ := hp2
  subst hr2
  cases hu2
  refine v_if_eq C 21 dX12_optionAtHand_15 (by decide) (fun c_15 => ?_) (fun c_15 => ?_)
  · refine v_aload_n C 0 dX12_optionAtHand_21 rfl ?_
    refine v_bipush (v := 107) C dX12_optionAtHand_22 (by decide) ?_
    refine v_bipush (v := 101) C dX12_optionAtHand_24 (by decide) ?_
    refine v_bipush (v := 101) C dX12_optionAtHand_26 (by decide) ?_
    refine v_bipush (v := 112) C dX12_optionAtHand_28 (by decide) ?_
    refine v_iconst (v := 0) C dX12_optionAtHand_30 (by decide) ?_
    refine v_sJ C [.int 107, .int 101, .int 101, .int 112, .int 0] 5 (c_X12_spelt E hM _ _  107 101 101 112 0  ) m_X12_spelt x_1511 x_1512 p_X12_spelt rfl ⟨Nat.le_of_ble_eq_true rfl, Nat.le_of_ble_eq_true rfl⟩ rfl (Nat.le_of_ble_eq_true rfl) dX12_optionAtHand_31 (fun r3 u3 v3 hp3 => ?_)
    obtain ⟨hr3, hu3⟩ := hp3
    subst hr3
    cases hu3
    refine v_vI C 12 0 [.long (spF (107 : Int32) (101 : Int32) (101 : Int32) (112 : Int32) (0 : Int32))] 1 (c_X12_isKey E hM _ _  (spF (107 : Int32) (101 : Int32) (101 : Int32) (112 : Int32) (0 : Int32))  ) m_X12_isKey x_1514 x_1516 x_42 p_X12_isKey rfl ⟨Nat.le_of_ble_eq_true rfl, Nat.le_of_ble_eq_true rfl⟩ (hM.2 _ (u_12 0 (by decide))) k_12 rfl (Nat.le_of_ble_eq_true rfl) dX12_optionAtHand_34 (fun r4 u4 v4 hp4 => ?_)
    obtain ⟨hr4, hu4⟩ := hp4
    subst hr4
    cases hu4
    refine v_if_eq C 43 dX12_optionAtHand_37 (by decide) (fun c_37 => ?_) (fun c_37 => ?_)
    · refine v_aload_n C 0 dX12_optionAtHand_43 rfl ?_
      refine v_bipush (v := 108) C dX12_optionAtHand_44 (by decide) ?_
      refine v_bipush (v := 101) C dX12_optionAtHand_46 (by decide) ?_
      refine v_bipush (v := 97) C dX12_optionAtHand_48 (by decide) ?_
      refine v_bipush (v := 107) C dX12_optionAtHand_50 (by decide) ?_
      refine v_iconst (v := 0) C dX12_optionAtHand_52 (by decide) ?_
      refine v_sJ C [.int 108, .int 101, .int 97, .int 107, .int 0] 5 (c_X12_spelt E hM _ _  108 101 97 107 0  ) m_X12_spelt x_1511 x_1512 p_X12_spelt rfl ⟨Nat.le_of_ble_eq_true rfl, Nat.le_of_ble_eq_true rfl⟩ rfl (Nat.le_of_ble_eq_true rfl) dX12_optionAtHand_53 (fun r5 u5 v5 hp5 => ?_)
      obtain ⟨hr5, hu5⟩ := hp5
      subst hr5
      cases hu5
      refine v_vI C 12 0 [.long (spF (108 : Int32) (101 : Int32) (97 : Int32) (107 : Int32) (0 : Int32))] 1 (c_X12_isKey E hM _ _  (spF (108 : Int32) (101 : Int32) (97 : Int32) (107 : Int32) (0 : Int32))  ) m_X12_isKey x_1514 x_1516 x_42 p_X12_isKey rfl ⟨Nat.le_of_ble_eq_true rfl, Nat.le_of_ble_eq_true rfl⟩ (hM.2 _ (u_12 0 (by decide))) k_12 rfl (Nat.le_of_ble_eq_true rfl) dX12_optionAtHand_56 (fun r6 u6 v6 hp6 => ?_)
      obtain ⟨hr6, hu6⟩ := hp6
      subst hr6
      cases hu6
      refine v_if_eq C 66 dX12_optionAtHand_59 (by decide) (fun c_59 => ?_) (fun c_59 => ?_)
      · refine v_aload_n C 0 dX12_optionAtHand_66 rfl ?_
        refine v_bipush (v := 104) C dX12_optionAtHand_67 (by decide) ?_
        refine v_bipush (v := 111) C dX12_optionAtHand_69 (by decide) ?_
        refine v_bipush (v := 115) C dX12_optionAtHand_71 (by decide) ?_
        refine v_bipush (v := 101) C dX12_optionAtHand_73 (by decide) ?_
        refine v_iconst (v := 0) C dX12_optionAtHand_75 (by decide) ?_
        refine v_sJ C [.int 104, .int 111, .int 115, .int 101, .int 0] 5 (c_X12_spelt E hM _ _  104 111 115 101 0  ) m_X12_spelt x_1511 x_1512 p_X12_spelt rfl ⟨Nat.le_of_ble_eq_true rfl, Nat.le_of_ble_eq_true rfl⟩ rfl (Nat.le_of_ble_eq_true rfl) dX12_optionAtHand_76 (fun r7 u7 v7 hp7 => ?_)
        obtain ⟨hr7, hu7⟩ := hp7
        subst hr7
        cases hu7
        refine v_vI C 12 0 [.long (spF (104 : Int32) (111 : Int32) (115 : Int32) (101 : Int32) (0 : Int32))] 1 (c_X12_isKey E hM _ _  (spF (104 : Int32) (111 : Int32) (115 : Int32) (101 : Int32) (0 : Int32))  ) m_X12_isKey x_1514 x_1516 x_42 p_X12_isKey rfl ⟨Nat.le_of_ble_eq_true rfl, Nat.le_of_ble_eq_true rfl⟩ (hM.2 _ (u_12 0 (by decide))) k_12 rfl (Nat.le_of_ble_eq_true rfl) dX12_optionAtHand_79 (fun r8 u8 v8 hp8 => ?_)
        obtain ⟨hr8, hu8⟩ := hp8
        subst hr8
        cases hu8
        refine v_if_eq C 89 dX12_optionAtHand_82 (by decide) (fun c_82 => ?_) (fun c_82 => ?_)
        · refine v_aload_n C 0 dX12_optionAtHand_89 rfl ?_
          refine v_bipush (v := 115) C dX12_optionAtHand_90 (by decide) ?_
          refine v_bipush (v := 116) C dX12_optionAtHand_92 (by decide) ?_
          refine v_bipush (v := 117) C dX12_optionAtHand_94 (by decide) ?_
          refine v_bipush (v := 99) C dX12_optionAtHand_96 (by decide) ?_
          refine v_bipush (v := 107) C dX12_optionAtHand_98 (by decide) ?_
          refine v_sJ C [.int 115, .int 116, .int 117, .int 99, .int 107] 5 (c_X12_spelt E hM _ _  115 116 117 99 107  ) m_X12_spelt x_1511 x_1512 p_X12_spelt rfl ⟨Nat.le_of_ble_eq_true rfl, Nat.le_of_ble_eq_true rfl⟩ rfl (Nat.le_of_ble_eq_true rfl) dX12_optionAtHand_100 (fun r9 u9 v9 hp9 => ?_)
          obtain ⟨hr9, hu9⟩ := hp9
          subst hr9
          cases hu9
          refine v_vI C 12 0 [.long (spF (115 : Int32) (116 : Int32) (117 : Int32) (99 : Int32) (107 : Int32))] 1 (c_X12_isKey E hM _ _  (spF (115 : Int32) (116 : Int32) (117 : Int32) (99 : Int32) (107 : Int32))  ) m_X12_isKey x_1514 x_1516 x_42 p_X12_isKey rfl ⟨Nat.le_of_ble_eq_true rfl, Nat.le_of_ble_eq_true rfl⟩ (hM.2 _ (u_12 0 (by decide))) k_12 rfl (Nat.le_of_ble_eq_true rfl) dX12_optionAtHand_103 (fun r10 u10 v10 hp10 => ?_)
          obtain ⟨hr10, hu10⟩ := hp10
          subst hr10
          cases hu10
          refine v_if_eq C 115 dX12_optionAtHand_106 (by decide) (fun c_106 => ?_) (fun c_106 => ?_)
          · refine v_iconst (v := (-1)) C dX12_optionAtHand_115 (by decide) ?_
            exact v_iret C dX12_optionAtHand_116 ⟨(by clear C; simp only [opG, kyG]; grind), (congr (congrArg Prod.mk rfl) rfl)⟩
          · refine v_sipush (v := 192) C dX12_optionAtHand_109 (by decide) ?_
            refine v_goto C 116 dX12_optionAtHand_112 (by decide) ?_
            exact v_iret C dX12_optionAtHand_116 ⟨(by clear C; simp only [opG, kyG]; grind), (congr (congrArg Prod.mk rfl) rfl)⟩
        · refine v_sipush (v := 160) C dX12_optionAtHand_85 (by decide) ?_
          exact v_iret C dX12_optionAtHand_88 ⟨(by clear C; simp only [opG, kyG]; grind), (congr (congrArg Prod.mk rfl) rfl)⟩
      · refine v_sipush (v := 128) C dX12_optionAtHand_62 (by decide) ?_
        exact v_iret C dX12_optionAtHand_65 ⟨(by clear C; simp only [opG, kyG]; grind), (congr (congrArg Prod.mk rfl) rfl)⟩
    · refine v_bipush (v := 96) C dX12_optionAtHand_40 (by decide) ?_
      exact v_iret C dX12_optionAtHand_42 ⟨(by clear C; simp only [opG, kyG]; grind), (congr (congrArg Prod.mk rfl) rfl)⟩
  · refine v_bipush (v := 64) C dX12_optionAtHand_18 (by decide) ?_
    exact v_iret C dX12_optionAtHand_20 ⟨(by clear C; simp only [opG, kyG]; grind), (congr (congrArg Prod.mk rfl) rfl)⟩
abbrev P_X12_readNumber (w : Wi) (z : Wj) (a1 : Int32) (b1 : Int32) : Int32 → WW → Prop := fun r_ u_ => r_ = ((rnG ((w 41 0), (w 1063 0 0), (w 1064 0 0)) a1 b1 (((w 1065 0 0), (w 1066 0 0), (w 1067 0 0), (w 1068 0 0), (z 1071 0 0)), (w 1069 0 0), (w 1070 0 0), (w 1072 0 0))).1) ∧ u_ = ((wS (wS (wS (wS (wS (wS (wS w 1065 0 (fun _ => (rnG ((w 41 0), (w 1063 0 0), (w 1064 0 0)) a1 b1 (((w 1065 0 0), (w 1066 0 0), (w 1067 0 0), (w 1068 0 0), (z 1071 0 0)), (w 1069 0 0), (w 1070 0 0), (w 1072 0 0))).2.1.1)) 1066 0 (fun _ => (rnG ((w 41 0), (w 1063 0 0), (w 1064 0 0)) a1 b1 (((w 1065 0 0), (w 1066 0 0), (w 1067 0 0), (w 1068 0 0), (z 1071 0 0)), (w 1069 0 0), (w 1070 0 0), (w 1072 0 0))).2.1.2.1)) 1067 0 (fun _ => (rnG ((w 41 0), (w 1063 0 0), (w 1064 0 0)) a1 b1 (((w 1065 0 0), (w 1066 0 0), (w 1067 0 0), (w 1068 0 0), (z 1071 0 0)), (w 1069 0 0), (w 1070 0 0), (w 1072 0 0))).2.1.2.2.1)) 1068 0 (fun _ => (rnG ((w 41 0), (w 1063 0 0), (w 1064 0 0)) a1 b1 (((w 1065 0 0), (w 1066 0 0), (w 1067 0 0), (w 1068 0 0), (z 1071 0 0)), (w 1069 0 0), (w 1070 0 0), (w 1072 0 0))).2.1.2.2.2.1)) 1069 0 (fun _ => (rnG ((w 41 0), (w 1063 0 0), (w 1064 0 0)) a1 b1 (((w 1065 0 0), (w 1066 0 0), (w 1067 0 0), (w 1068 0 0), (z 1071 0 0)), (w 1069 0 0), (w 1070 0 0), (w 1072 0 0))).2.2.1)) 1070 0 (fun _ => (rnG ((w 41 0), (w 1063 0 0), (w 1064 0 0)) a1 b1 (((w 1065 0 0), (w 1066 0 0), (w 1067 0 0), (w 1068 0 0), (z 1071 0 0)), (w 1069 0 0), (w 1070 0 0), (w 1072 0 0))).2.2.2.1)) 1072 0 (fun _ => (rnG ((w 41 0), (w 1063 0 0), (w 1064 0 0)) a1 b1 (((w 1065 0 0), (w 1066 0 0), (w 1067 0 0), (w 1068 0 0), (z 1071 0 0)), (w 1069 0 0), (w 1070 0 0), (w 1072 0 0))).2.2.2.2)), (wS z 1071 0 (fun _ => (rnG ((w 41 0), (w 1063 0 0), (w 1064 0 0)) a1 b1 (((w 1065 0 0), (w 1066 0 0), (w 1067 0 0), (w 1068 0 0), (z 1071 0 0)), (w 1069 0 0), (w 1070 0 0), (w 1072 0 0))).2.1.2.2.2.2)))
set_option maxHeartbeats 4000000 in
set_option maxRecDepth 100000 in
theorem c_X12_readNumber (E : En) (hM : q_okM E) (w : Wi) (z : Wj) (a1 : Int32) (b1 : Int32) (hk : okG ((w 41 0), (w 1063 0 0), (w 1064 0 0)) ((w 1065 0 0), (w 1066 0 0), (w 1067 0 0), (w 1068 0 0), (z 1071 0 0))) : CtI M_X12_readNumber E [.ref (E.ad 12 0), .int a1, .int b1] w z (P_X12_readNumber w z a1 b1) := by
  have hE := hM.1
  refine ctI_of (lv := [(0, .ref (E.ad 12 0)), (1, .int a1), (2, .int b1)]) hE m_X12_readNumber (Nat.le_of_ble_eq_true rfl) rfl ?_
  intro K A C0
  have C : Cx K E A cX12_readNumber 3 RX12 (some .boolean) { frames := 2, cells := 0, slots := 0, locals := 45 } := C0
  clear C0
  refine v_aload_n C 0 dX12_readNumber_0 rfl ?_
  refine v_gI C 12 0 7 1067 (w 1067 0 0) (hM.2 _ (u_12 0 (by decide))) k_12 (by decide) rfl rfl x_1249 rfl dX12_readNumber_1 ?_
  refine v_iconst (v := 3) C dX12_readNumber_4 (by decide) ?_
  refine v_ic_eq C 14 dX12_readNumber_5 (by decide) (fun c_5 => ?_) (fun c_5 => ?_)
  · refine v_aload_n C 0 dX12_readNumber_14 rfl ?_
    refine v_gI C 12 0 8 1068 (w 1068 0 0) (hM.2 _ (u_12 0 (by decide))) k_12 (by decide) rfl rfl x_1250 rfl dX12_readNumber_15 ?_
    refine v_iload_n C 1 dX12_readNumber_18 rfl ?_
    refine v_iload_n C 2 dX12_readNumber_19 rfl ?_
    refine v_sI C [.int (w 1068 0 0), .int a1, .int b1] 3 (c_X12_isIn E hM _ _  (w 1068 0 0) a1 b1  ) m_X12_isIn x_1530 x_1531 p_X12_isIn rfl ⟨Nat.le_of_ble_eq_true rfl, Nat.le_of_ble_eq_true rfl⟩ rfl (Nat.le_of_ble_eq_true rfl) dX12_readNumber_20 (fun r1 u1 v1 hp1 => ?_)
    obtain ⟨hr1, hu1⟩ := hp1
    subst hr1
    cases hu1
    refine v_if_ne C 32 dX12_readNumber_23 (by decide) (fun c_23 => ?_) (fun c_23 => ?_)
    · refine v_aload_n C 0 dX12_readNumber_32 rfl ?_
      refine v_aload_n C 0 dX12_readNumber_33 rfl ?_
      refine v_gI C 12 0 8 1068 (w 1068 0 0) (hM.2 _ (u_12 0 (by decide))) k_12 (by decide) rfl rfl x_1250 rfl dX12_readNumber_34 ?_
      refine v_pI C 12 0 12 1072 (hM.2 _ (u_12 0 (by decide))) k_12 ty_12 (by decide) rfl ⟨rfl, rfl⟩ x_1254 rfl rfl dX12_readNumber_37 ?_
      refine v_aload_n C 0 dX12_readNumber_40 rfl ?_
      refine v_vV C 12 0 [] 0 (c_X12_go E hM _ _    (by clear C; (try simp only [wS_s, wS_t, wS_a, ne_eq, Nat.reduceEqDiff, not_false_eq_true, L7_1]); exact hk.1) (by clear C; (try simp only [wS_s, wS_t, wS_a, ne_eq, Nat.reduceEqDiff, not_false_eq_true, L7_1]); exact hk.2.1) (by clear C; (try simp only [wS_s, wS_t, wS_a, ne_eq, Nat.reduceEqDiff, not_false_eq_true, L7_1]); exact hk.2.2.1) (by clear C; (try simp only [wS_s, wS_t, wS_a, ne_eq, Nat.reduceEqDiff, not_false_eq_true, L7_1]); exact hk.2.2.2)) m_X12_go x_1487 x_1489 x_38 p_X12_go rfl ⟨Nat.le_of_ble_eq_true rfl, Nat.le_of_ble_eq_true rfl⟩ (hM.2 _ (u_12 0 (by decide))) k_12 rfl (Nat.le_of_ble_eq_true rfl) dX12_readNumber_41 (fun u2 v2 hp2 => ?_)
      have hu2 := hp2
      cases hu2
      refine v_w (w2 := (wS (wS (wS (wS (wS w 1065 0 (fun _ => (goG ((w 41 0), (w 1063 0 0), (w 1064 0 0)) ((w 1065 0 0), (w 1066 0 0), (w 1067 0 0), (w 1068 0 0), (z 1071 0 0))).1)) 1066 0 (fun _ => (goG ((w 41 0), (w 1063 0 0), (w 1064 0 0)) ((w 1065 0 0), (w 1066 0 0), (w 1067 0 0), (w 1068 0 0), (z 1071 0 0))).2.1)) 1067 0 (fun _ => (goG ((w 41 0), (w 1063 0 0), (w 1064 0 0)) ((w 1065 0 0), (w 1066 0 0), (w 1067 0 0), (w 1068 0 0), (z 1071 0 0))).2.2.1)) 1068 0 (fun _ => (goG ((w 41 0), (w 1063 0 0), (w 1064 0 0)) ((w 1065 0 0), (w 1066 0 0), (w 1067 0 0), (w 1068 0 0), (z 1071 0 0))).2.2.2.1)) 1072 0 (fun _ => (w 1068 0 0)))) (by simp only [wS_s, wS_t, wS_a, ne_eq, Nat.reduceEqDiff, not_false_eq_true, wS_wS, wS_p, wS_pp, Nat.reduceLT, id_eq, L7_1]) ?_
      refine v_z (z2 := (wS z 1071 0 (fun _ => (goG ((w 41 0), (w 1063 0 0), (w 1064 0 0)) ((w 1065 0 0), (w 1066 0 0), (w 1067 0 0), (w 1068 0 0), (z 1071 0 0))).2.2.2.2))) (by simp only [wS_s, wS_t, wS_a, ne_eq, Nat.reduceEqDiff, not_false_eq_true, wS_wS, wS_p, wS_pp, Nat.reduceLT, id_eq, L7_1]) ?_
      refine v_iconst (v := 1) C dX12_readNumber_44 (by decide) ?_
      refine v_tS C 1069 0 (by decide) ?_
      refine v_tS C 1070 0 (by decide) ?_
      refine v_w (w2 := (wS (wS (wS (wS (wS (wS (wS w 1065 0 (fun _ => (goG ((w 41 0), (w 1063 0 0), (w 1064 0 0)) ((w 1065 0 0), (w 1066 0 0), (w 1067 0 0), (w 1068 0 0), (z 1071 0 0))).1)) 1066 0 (fun _ => (goG ((w 41 0), (w 1063 0 0), (w 1064 0 0)) ((w 1065 0 0), (w 1066 0 0), (w 1067 0 0), (w 1068 0 0), (z 1071 0 0))).2.1)) 1067 0 (fun _ => (goG ((w 41 0), (w 1063 0 0), (w 1064 0 0)) ((w 1065 0 0), (w 1066 0 0), (w 1067 0 0), (w 1068 0 0), (z 1071 0 0))).2.2.1)) 1068 0 (fun _ => (goG ((w 41 0), (w 1063 0 0), (w 1064 0 0)) ((w 1065 0 0), (w 1066 0 0), (w 1067 0 0), (w 1068 0 0), (z 1071 0 0))).2.2.2.1)) 1069 0 (fun _ => (w 1069 0 0))) 1070 0 (fun _ => (w 1070 0 0))) 1072 0 (fun _ => (w 1068 0 0)))) (by simp only [wS_s, wS_t, wS_a, ne_eq, Nat.reduceEqDiff, not_false_eq_true, wS_wS, wS_p, wS_pp, Nat.reduceLT, id_eq, L7_1]) ?_
      exact v_zret C dX12_readNumber_45 (by decide) ⟨(by clear C; simp only [rnG]; (first | rw [if_pos (show ¬ (w 1067 0 0) = 3 by clear hk; assumption)] | rw [if_neg (show ¬ ¬ (w 1067 0 0) = 3 from not_not_intro (by clear hk; assumption)), if_pos (show ¬ (a1 ≤ (w 1068 0 0) ∧ (w 1068 0 0) ≤ b1) by clear hk; grind)] | rw [if_neg (show ¬ ¬ (w 1067 0 0) = 3 from not_not_intro (by clear hk; assumption)), if_neg (show ¬ ¬ (a1 ≤ (w 1068 0 0) ∧ (w 1068 0 0) ≤ b1) by clear hk; grind)]); first | done | rfl), (congr (congrArg Prod.mk (wS_eq (wS_eq (wS_eq (wS_eq (wS_eq (wS_eq (wS_eq rfl (fu_eq (by clear C; simp only [rnG]; (first | rw [if_pos (show ¬ (w 1067 0 0) = 3 by clear hk; assumption)] | rw [if_neg (show ¬ ¬ (w 1067 0 0) = 3 from not_not_intro (by clear hk; assumption)), if_pos (show ¬ (a1 ≤ (w 1068 0 0) ∧ (w 1068 0 0) ≤ b1) by clear hk; grind)] | rw [if_neg (show ¬ ¬ (w 1067 0 0) = 3 from not_not_intro (by clear hk; assumption)), if_neg (show ¬ ¬ (a1 ≤ (w 1068 0 0) ∧ (w 1068 0 0) ≤ b1) by clear hk; grind)]); first | done | rfl))) (fu_eq (by clear C; simp only [rnG]; (first | rw [if_pos (show ¬ (w 1067 0 0) = 3 by clear hk; assumption)] | rw [if_neg (show ¬ ¬ (w 1067 0 0) = 3 from not_not_intro (by clear hk; assumption)), if_pos (show ¬ (a1 ≤ (w 1068 0 0) ∧ (w 1068 0 0) ≤ b1) by clear hk; grind)] | rw [if_neg (show ¬ ¬ (w 1067 0 0) = 3 from not_not_intro (by clear hk; assumption)), if_neg (show ¬ ¬ (a1 ≤ (w 1068 0 0) ∧ (w 1068 0 0) ≤ b1) by clear hk; grind)]); first | done | rfl))) (fu_eq (by clear C; simp only [rnG]; (first | rw [if_pos (show ¬ (w 1067 0 0) = 3 by clear hk; assumption)] | rw [if_neg (show ¬ ¬ (w 1067 0 0) = 3 from not_not_intro (by clear hk; assumption)), if_pos (show ¬ (a1 ≤ (w 1068 0 0) ∧ (w 1068 0 0) ≤ b1) by clear hk; grind)] | rw [if_neg (show ¬ ¬ (w 1067 0 0) = 3 from not_not_intro (by clear hk; assumption)), if_neg (show ¬ ¬ (a1 ≤ (w 1068 0 0) ∧ (w 1068 0 0) ≤ b1) by clear hk; grind)]); first | done | rfl))) (fu_eq (by clear C; simp only [rnG]; (first | rw [if_pos (show ¬ (w 1067 0 0) = 3 by clear hk; assumption)] | rw [if_neg (show ¬ ¬ (w 1067 0 0) = 3 from not_not_intro (by clear hk; assumption)), if_pos (show ¬ (a1 ≤ (w 1068 0 0) ∧ (w 1068 0 0) ≤ b1) by clear hk; grind)] | rw [if_neg (show ¬ ¬ (w 1067 0 0) = 3 from not_not_intro (by clear hk; assumption)), if_neg (show ¬ ¬ (a1 ≤ (w 1068 0 0) ∧ (w 1068 0 0) ≤ b1) by clear hk; grind)]); first | done | rfl))) (fu_eq (by clear C; simp only [rnG]; (first | rw [if_pos (show ¬ (w 1067 0 0) = 3 by clear hk; assumption)] | rw [if_neg (show ¬ ¬ (w 1067 0 0) = 3 from not_not_intro (by clear hk; assumption)), if_pos (show ¬ (a1 ≤ (w 1068 0 0) ∧ (w 1068 0 0) ≤ b1) by clear hk; grind)] | rw [if_neg (show ¬ ¬ (w 1067 0 0) = 3 from not_not_intro (by clear hk; assumption)), if_neg (show ¬ ¬ (a1 ≤ (w 1068 0 0) ∧ (w 1068 0 0) ≤ b1) by clear hk; grind)]); first | done | rfl))) (fu_eq (by clear C; simp only [rnG]; (first | rw [if_pos (show ¬ (w 1067 0 0) = 3 by clear hk; assumption)] | rw [if_neg (show ¬ ¬ (w 1067 0 0) = 3 from not_not_intro (by clear hk; assumption)), if_pos (show ¬ (a1 ≤ (w 1068 0 0) ∧ (w 1068 0 0) ≤ b1) by clear hk; grind)] | rw [if_neg (show ¬ ¬ (w 1067 0 0) = 3 from not_not_intro (by clear hk; assumption)), if_neg (show ¬ ¬ (a1 ≤ (w 1068 0 0) ∧ (w 1068 0 0) ≤ b1) by clear hk; grind)]); first | done | rfl))) (fu_eq (by clear C; simp only [rnG]; (first | rw [if_pos (show ¬ (w 1067 0 0) = 3 by clear hk; assumption)] | rw [if_neg (show ¬ ¬ (w 1067 0 0) = 3 from not_not_intro (by clear hk; assumption)), if_pos (show ¬ (a1 ≤ (w 1068 0 0) ∧ (w 1068 0 0) ≤ b1) by clear hk; grind)] | rw [if_neg (show ¬ ¬ (w 1067 0 0) = 3 from not_not_intro (by clear hk; assumption)), if_neg (show ¬ ¬ (a1 ≤ (w 1068 0 0) ∧ (w 1068 0 0) ≤ b1) by clear hk; grind)]); first | done | rfl)))) (wS_eq rfl (fu_eq (by clear C; simp only [rnG]; (first | rw [if_pos (show ¬ (w 1067 0 0) = 3 by clear hk; assumption)] | rw [if_neg (show ¬ ¬ (w 1067 0 0) = 3 from not_not_intro (by clear hk; assumption)), if_pos (show ¬ (a1 ≤ (w 1068 0 0) ∧ (w 1068 0 0) ≤ b1) by clear hk; grind)] | rw [if_neg (show ¬ ¬ (w 1067 0 0) = 3 from not_not_intro (by clear hk; assumption)), if_neg (show ¬ ¬ (a1 ≤ (w 1068 0 0) ∧ (w 1068 0 0) ≤ b1) by clear hk; grind)]); first | done | rfl))))⟩
    · refine v_aload_n C 0 dX12_readNumber_26 rfl ?_
      refine v_iconst (v := 2) C dX12_readNumber_27 (by decide) ?_
      refine v_vI C 12 0 [.int 2] 1 (c_X12_bad E hM _ _  2  ) m_X12_bad x_1522 x_1524 x_44 p_X12_bad rfl ⟨Nat.le_of_ble_eq_true rfl, Nat.le_of_ble_eq_true rfl⟩ (hM.2 _ (u_12 0 (by decide))) k_12 rfl (Nat.le_of_ble_eq_true rfl) dX12_readNumber_28 (fun r3 u3 v3 hp3 => ?_)
      obtain ⟨hr3, hu3⟩ := hp3
      subst hr3
      cases hu3
      refine v_tS C 1065 0 (by decide) ?_
      refine v_tS C 1066 0 (by decide) ?_
      refine v_tS C 1067 0 (by decide) ?_
      refine v_tS C 1068 0 (by decide) ?_
      refine v_tS C 1072 0 (by decide) ?_
      refine v_tZ C 1071 0 (by decide) ?_
      refine v_w (w2 := (wS (wS (wS (wS (wS (wS (wS w 1065 0 (fun _ => (w 1065 0 0))) 1066 0 (fun _ => (w 1066 0 0))) 1067 0 (fun _ => (w 1067 0 0))) 1068 0 (fun _ => (w 1068 0 0))) 1069 0 (fun _ => if (w 1067 0 0) = 1 then 1 else (2 : Int32))) 1070 0 (fun _ => (w 1066 0 0))) 1072 0 (fun _ => (w 1072 0 0)))) (by simp only [wS_s, wS_t, wS_a, ne_eq, Nat.reduceEqDiff, not_false_eq_true, wS_wS, wS_p, wS_pp, Nat.reduceLT, id_eq, L7_1]) ?_
      exact v_zret C dX12_readNumber_31 (by decide) ⟨(by clear C; simp only [rnG]; (first | rw [if_pos (show ¬ (w 1067 0 0) = 3 by clear hk; assumption)] | rw [if_neg (show ¬ ¬ (w 1067 0 0) = 3 from not_not_intro (by clear hk; assumption)), if_pos (show ¬ (a1 ≤ (w 1068 0 0) ∧ (w 1068 0 0) ≤ b1) by clear hk; grind)] | rw [if_neg (show ¬ ¬ (w 1067 0 0) = 3 from not_not_intro (by clear hk; assumption)), if_neg (show ¬ ¬ (a1 ≤ (w 1068 0 0) ∧ (w 1068 0 0) ≤ b1) by clear hk; grind)]); first | done | rfl), (congr (congrArg Prod.mk (wS_eq (wS_eq (wS_eq (wS_eq (wS_eq (wS_eq (wS_eq rfl (fu_eq (by clear C; simp only [rnG]; (first | rw [if_pos (show ¬ (w 1067 0 0) = 3 by clear hk; assumption)] | rw [if_neg (show ¬ ¬ (w 1067 0 0) = 3 from not_not_intro (by clear hk; assumption)), if_pos (show ¬ (a1 ≤ (w 1068 0 0) ∧ (w 1068 0 0) ≤ b1) by clear hk; grind)] | rw [if_neg (show ¬ ¬ (w 1067 0 0) = 3 from not_not_intro (by clear hk; assumption)), if_neg (show ¬ ¬ (a1 ≤ (w 1068 0 0) ∧ (w 1068 0 0) ≤ b1) by clear hk; grind)]); first | done | rfl))) (fu_eq (by clear C; simp only [rnG]; (first | rw [if_pos (show ¬ (w 1067 0 0) = 3 by clear hk; assumption)] | rw [if_neg (show ¬ ¬ (w 1067 0 0) = 3 from not_not_intro (by clear hk; assumption)), if_pos (show ¬ (a1 ≤ (w 1068 0 0) ∧ (w 1068 0 0) ≤ b1) by clear hk; grind)] | rw [if_neg (show ¬ ¬ (w 1067 0 0) = 3 from not_not_intro (by clear hk; assumption)), if_neg (show ¬ ¬ (a1 ≤ (w 1068 0 0) ∧ (w 1068 0 0) ≤ b1) by clear hk; grind)]); first | done | rfl))) (fu_eq (by clear C; simp only [rnG]; (first | rw [if_pos (show ¬ (w 1067 0 0) = 3 by clear hk; assumption)] | rw [if_neg (show ¬ ¬ (w 1067 0 0) = 3 from not_not_intro (by clear hk; assumption)), if_pos (show ¬ (a1 ≤ (w 1068 0 0) ∧ (w 1068 0 0) ≤ b1) by clear hk; grind)] | rw [if_neg (show ¬ ¬ (w 1067 0 0) = 3 from not_not_intro (by clear hk; assumption)), if_neg (show ¬ ¬ (a1 ≤ (w 1068 0 0) ∧ (w 1068 0 0) ≤ b1) by clear hk; grind)]); first | done | rfl))) (fu_eq (by clear C; simp only [rnG]; (first | rw [if_pos (show ¬ (w 1067 0 0) = 3 by clear hk; assumption)] | rw [if_neg (show ¬ ¬ (w 1067 0 0) = 3 from not_not_intro (by clear hk; assumption)), if_pos (show ¬ (a1 ≤ (w 1068 0 0) ∧ (w 1068 0 0) ≤ b1) by clear hk; grind)] | rw [if_neg (show ¬ ¬ (w 1067 0 0) = 3 from not_not_intro (by clear hk; assumption)), if_neg (show ¬ ¬ (a1 ≤ (w 1068 0 0) ∧ (w 1068 0 0) ≤ b1) by clear hk; grind)]); first | done | rfl))) (fu_eq (by clear C; simp only [rnG]; (first | rw [if_pos (show ¬ (w 1067 0 0) = 3 by clear hk; assumption)] | rw [if_neg (show ¬ ¬ (w 1067 0 0) = 3 from not_not_intro (by clear hk; assumption)), if_pos (show ¬ (a1 ≤ (w 1068 0 0) ∧ (w 1068 0 0) ≤ b1) by clear hk; grind)] | rw [if_neg (show ¬ ¬ (w 1067 0 0) = 3 from not_not_intro (by clear hk; assumption)), if_neg (show ¬ ¬ (a1 ≤ (w 1068 0 0) ∧ (w 1068 0 0) ≤ b1) by clear hk; grind)]); first | done | rfl))) (fu_eq (by clear C; simp only [rnG]; (first | rw [if_pos (show ¬ (w 1067 0 0) = 3 by clear hk; assumption)] | rw [if_neg (show ¬ ¬ (w 1067 0 0) = 3 from not_not_intro (by clear hk; assumption)), if_pos (show ¬ (a1 ≤ (w 1068 0 0) ∧ (w 1068 0 0) ≤ b1) by clear hk; grind)] | rw [if_neg (show ¬ ¬ (w 1067 0 0) = 3 from not_not_intro (by clear hk; assumption)), if_neg (show ¬ ¬ (a1 ≤ (w 1068 0 0) ∧ (w 1068 0 0) ≤ b1) by clear hk; grind)]); first | done | rfl))) (fu_eq (by clear C; simp only [rnG]; (first | rw [if_pos (show ¬ (w 1067 0 0) = 3 by clear hk; assumption)] | rw [if_neg (show ¬ ¬ (w 1067 0 0) = 3 from not_not_intro (by clear hk; assumption)), if_pos (show ¬ (a1 ≤ (w 1068 0 0) ∧ (w 1068 0 0) ≤ b1) by clear hk; grind)] | rw [if_neg (show ¬ ¬ (w 1067 0 0) = 3 from not_not_intro (by clear hk; assumption)), if_neg (show ¬ ¬ (a1 ≤ (w 1068 0 0) ∧ (w 1068 0 0) ≤ b1) by clear hk; grind)]); first | done | rfl)))) (wS_eq rfl (fu_eq (by clear C; simp only [rnG]; (first | rw [if_pos (show ¬ (w 1067 0 0) = 3 by clear hk; assumption)] | rw [if_neg (show ¬ ¬ (w 1067 0 0) = 3 from not_not_intro (by clear hk; assumption)), if_pos (show ¬ (a1 ≤ (w 1068 0 0) ∧ (w 1068 0 0) ≤ b1) by clear hk; grind)] | rw [if_neg (show ¬ ¬ (w 1067 0 0) = 3 from not_not_intro (by clear hk; assumption)), if_neg (show ¬ ¬ (a1 ≤ (w 1068 0 0) ∧ (w 1068 0 0) ≤ b1) by clear hk; grind)]); first | done | rfl))))⟩
  · refine v_aload_n C 0 dX12_readNumber_8 rfl ?_
    refine v_iconst (v := 1) C dX12_readNumber_9 (by decide) ?_
    refine v_vI C 12 0 [.int 1] 1 (c_X12_bad E hM _ _  1  ) m_X12_bad x_1522 x_1524 x_44 p_X12_bad rfl ⟨Nat.le_of_ble_eq_true rfl, Nat.le_of_ble_eq_true rfl⟩ (hM.2 _ (u_12 0 (by decide))) k_12 rfl (Nat.le_of_ble_eq_true rfl) dX12_readNumber_10 (fun r4 u4 v4 hp4 => ?_)
    obtain ⟨hr4, hu4⟩ := hp4
    subst hr4
    cases hu4
    refine v_tS C 1065 0 (by decide) ?_
    refine v_tS C 1066 0 (by decide) ?_
    refine v_tS C 1067 0 (by decide) ?_
    refine v_tS C 1068 0 (by decide) ?_
    refine v_tS C 1072 0 (by decide) ?_
    refine v_tZ C 1071 0 (by decide) ?_
    refine v_w (w2 := (wS (wS (wS (wS (wS (wS (wS w 1065 0 (fun _ => (w 1065 0 0))) 1066 0 (fun _ => (w 1066 0 0))) 1067 0 (fun _ => (w 1067 0 0))) 1068 0 (fun _ => (w 1068 0 0))) 1069 0 (fun _ => if (w 1067 0 0) = 1 then 1 else (1 : Int32))) 1070 0 (fun _ => (w 1066 0 0))) 1072 0 (fun _ => (w 1072 0 0)))) (by simp only [wS_s, wS_t, wS_a, ne_eq, Nat.reduceEqDiff, not_false_eq_true, wS_wS, wS_p, wS_pp, Nat.reduceLT, id_eq, L7_1]) ?_
    exact v_zret C dX12_readNumber_13 (by decide) ⟨(by clear C; simp only [rnG]; (first | rw [if_pos (show ¬ (w 1067 0 0) = 3 by clear hk; assumption)] | rw [if_neg (show ¬ ¬ (w 1067 0 0) = 3 from not_not_intro (by clear hk; assumption)), if_pos (show ¬ (a1 ≤ (w 1068 0 0) ∧ (w 1068 0 0) ≤ b1) by clear hk; grind)] | rw [if_neg (show ¬ ¬ (w 1067 0 0) = 3 from not_not_intro (by clear hk; assumption)), if_neg (show ¬ ¬ (a1 ≤ (w 1068 0 0) ∧ (w 1068 0 0) ≤ b1) by clear hk; grind)]); first | done | rfl), (congr (congrArg Prod.mk (wS_eq (wS_eq (wS_eq (wS_eq (wS_eq (wS_eq (wS_eq rfl (fu_eq (by clear C; simp only [rnG]; (first | rw [if_pos (show ¬ (w 1067 0 0) = 3 by clear hk; assumption)] | rw [if_neg (show ¬ ¬ (w 1067 0 0) = 3 from not_not_intro (by clear hk; assumption)), if_pos (show ¬ (a1 ≤ (w 1068 0 0) ∧ (w 1068 0 0) ≤ b1) by clear hk; grind)] | rw [if_neg (show ¬ ¬ (w 1067 0 0) = 3 from not_not_intro (by clear hk; assumption)), if_neg (show ¬ ¬ (a1 ≤ (w 1068 0 0) ∧ (w 1068 0 0) ≤ b1) by clear hk; grind)]); first | done | rfl))) (fu_eq (by clear C; simp only [rnG]; (first | rw [if_pos (show ¬ (w 1067 0 0) = 3 by clear hk; assumption)] | rw [if_neg (show ¬ ¬ (w 1067 0 0) = 3 from not_not_intro (by clear hk; assumption)), if_pos (show ¬ (a1 ≤ (w 1068 0 0) ∧ (w 1068 0 0) ≤ b1) by clear hk; grind)] | rw [if_neg (show ¬ ¬ (w 1067 0 0) = 3 from not_not_intro (by clear hk; assumption)), if_neg (show ¬ ¬ (a1 ≤ (w 1068 0 0) ∧ (w 1068 0 0) ≤ b1) by clear hk; grind)]); first | done | rfl))) (fu_eq (by clear C; simp only [rnG]; (first | rw [if_pos (show ¬ (w 1067 0 0) = 3 by clear hk; assumption)] | rw [if_neg (show ¬ ¬ (w 1067 0 0) = 3 from not_not_intro (by clear hk; assumption)), if_pos (show ¬ (a1 ≤ (w 1068 0 0) ∧ (w 1068 0 0) ≤ b1) by clear hk; grind)] | rw [if_neg (show ¬ ¬ (w 1067 0 0) = 3 from not_not_intro (by clear hk; assumption)), if_neg (show ¬ ¬ (a1 ≤ (w 1068 0 0) ∧ (w 1068 0 0) ≤ b1) by clear hk; grind)]); first | done | rfl))) (fu_eq (by clear C; simp only [rnG]; (first | rw [if_pos (show ¬ (w 1067 0 0) = 3 by clear hk; assumption)] | rw [if_neg (show ¬ ¬ (w 1067 0 0) = 3 from not_not_intro (by clear hk; assumption)), if_pos (show ¬ (a1 ≤ (w 1068 0 0) ∧ (w 1068 0 0) ≤ b1) by clear hk; grind)] | rw [if_neg (show ¬ ¬ (w 1067 0 0) = 3 from not_not_intro (by clear hk; assumption)), if_neg (show ¬ ¬ (a1 ≤ (w 1068 0 0) ∧ (w 1068 0 0) ≤ b1) by clear hk; grind)]); first | done | rfl))) (fu_eq (by clear C; simp only [rnG]; (first | rw [if_pos (show ¬ (w 1067 0 0) = 3 by clear hk; assumption)] | rw [if_neg (show ¬ ¬ (w 1067 0 0) = 3 from not_not_intro (by clear hk; assumption)), if_pos (show ¬ (a1 ≤ (w 1068 0 0) ∧ (w 1068 0 0) ≤ b1) by clear hk; grind)] | rw [if_neg (show ¬ ¬ (w 1067 0 0) = 3 from not_not_intro (by clear hk; assumption)), if_neg (show ¬ ¬ (a1 ≤ (w 1068 0 0) ∧ (w 1068 0 0) ≤ b1) by clear hk; grind)]); first | done | rfl))) (fu_eq (by clear C; simp only [rnG]; (first | rw [if_pos (show ¬ (w 1067 0 0) = 3 by clear hk; assumption)] | rw [if_neg (show ¬ ¬ (w 1067 0 0) = 3 from not_not_intro (by clear hk; assumption)), if_pos (show ¬ (a1 ≤ (w 1068 0 0) ∧ (w 1068 0 0) ≤ b1) by clear hk; grind)] | rw [if_neg (show ¬ ¬ (w 1067 0 0) = 3 from not_not_intro (by clear hk; assumption)), if_neg (show ¬ ¬ (a1 ≤ (w 1068 0 0) ∧ (w 1068 0 0) ≤ b1) by clear hk; grind)]); first | done | rfl))) (fu_eq (by clear C; simp only [rnG]; (first | rw [if_pos (show ¬ (w 1067 0 0) = 3 by clear hk; assumption)] | rw [if_neg (show ¬ ¬ (w 1067 0 0) = 3 from not_not_intro (by clear hk; assumption)), if_pos (show ¬ (a1 ≤ (w 1068 0 0) ∧ (w 1068 0 0) ≤ b1) by clear hk; grind)] | rw [if_neg (show ¬ ¬ (w 1067 0 0) = 3 from not_not_intro (by clear hk; assumption)), if_neg (show ¬ ¬ (a1 ≤ (w 1068 0 0) ∧ (w 1068 0 0) ≤ b1) by clear hk; grind)]); first | done | rfl)))) (wS_eq rfl (fu_eq (by clear C; simp only [rnG]; (first | rw [if_pos (show ¬ (w 1067 0 0) = 3 by clear hk; assumption)] | rw [if_neg (show ¬ ¬ (w 1067 0 0) = 3 from not_not_intro (by clear hk; assumption)), if_pos (show ¬ (a1 ≤ (w 1068 0 0) ∧ (w 1068 0 0) ≤ b1) by clear hk; grind)] | rw [if_neg (show ¬ ¬ (w 1067 0 0) = 3 from not_not_intro (by clear hk; assumption)), if_neg (show ¬ ¬ (a1 ≤ (w 1068 0 0) ∧ (w 1068 0 0) ≤ b1) by clear hk; grind)]); first | done | rfl))))⟩
abbrev P_X12_readEnd (w : Wi) (z : Wj) : Int32 → WW → Prop := fun r_ u_ => r_ = ((rmG ((w 41 0), (w 1063 0 0), (w 1064 0 0)) (((w 1065 0 0), (w 1066 0 0), (w 1067 0 0), (w 1068 0 0), (z 1071 0 0)), (w 1069 0 0), (w 1070 0 0), (w 1072 0 0))).1) ∧ u_ = ((wS (wS (wS (wS (wS (wS w 1065 0 (fun _ => (rmG ((w 41 0), (w 1063 0 0), (w 1064 0 0)) (((w 1065 0 0), (w 1066 0 0), (w 1067 0 0), (w 1068 0 0), (z 1071 0 0)), (w 1069 0 0), (w 1070 0 0), (w 1072 0 0))).2.1.1)) 1066 0 (fun _ => (rmG ((w 41 0), (w 1063 0 0), (w 1064 0 0)) (((w 1065 0 0), (w 1066 0 0), (w 1067 0 0), (w 1068 0 0), (z 1071 0 0)), (w 1069 0 0), (w 1070 0 0), (w 1072 0 0))).2.1.2.1)) 1067 0 (fun _ => (rmG ((w 41 0), (w 1063 0 0), (w 1064 0 0)) (((w 1065 0 0), (w 1066 0 0), (w 1067 0 0), (w 1068 0 0), (z 1071 0 0)), (w 1069 0 0), (w 1070 0 0), (w 1072 0 0))).2.1.2.2.1)) 1068 0 (fun _ => (rmG ((w 41 0), (w 1063 0 0), (w 1064 0 0)) (((w 1065 0 0), (w 1066 0 0), (w 1067 0 0), (w 1068 0 0), (z 1071 0 0)), (w 1069 0 0), (w 1070 0 0), (w 1072 0 0))).2.1.2.2.2.1)) 1069 0 (fun _ => (rmG ((w 41 0), (w 1063 0 0), (w 1064 0 0)) (((w 1065 0 0), (w 1066 0 0), (w 1067 0 0), (w 1068 0 0), (z 1071 0 0)), (w 1069 0 0), (w 1070 0 0), (w 1072 0 0))).2.2.1)) 1070 0 (fun _ => (rmG ((w 41 0), (w 1063 0 0), (w 1064 0 0)) (((w 1065 0 0), (w 1066 0 0), (w 1067 0 0), (w 1068 0 0), (z 1071 0 0)), (w 1069 0 0), (w 1070 0 0), (w 1072 0 0))).2.2.2.1)), (wS z 1071 0 (fun _ => (rmG ((w 41 0), (w 1063 0 0), (w 1064 0 0)) (((w 1065 0 0), (w 1066 0 0), (w 1067 0 0), (w 1068 0 0), (z 1071 0 0)), (w 1069 0 0), (w 1070 0 0), (w 1072 0 0))).2.1.2.2.2.2)))
set_option maxHeartbeats 4000000 in
set_option maxRecDepth 100000 in
theorem c_X12_readEnd (E : En) (hM : q_okM E) (w : Wi) (z : Wj) (hk : okG ((w 41 0), (w 1063 0 0), (w 1064 0 0)) ((w 1065 0 0), (w 1066 0 0), (w 1067 0 0), (w 1068 0 0), (z 1071 0 0))) : CtI M_X12_readEnd E [.ref (E.ad 12 0)] w z (P_X12_readEnd w z) := by
  have hE := hM.1
  refine ctI_of (lv := [(0, .ref (E.ad 12 0))]) hE m_X12_readEnd (Nat.le_of_ble_eq_true rfl) rfl ?_
  intro K A C0
  have C : Cx K E A cX12_readEnd 1 RX12 (some .boolean) { frames := 2, cells := 0, slots := 0, locals := 45 } := C0
  clear C0
  refine v_aload_n C 0 dX12_readEnd_0 rfl ?_
  refine v_gI C 12 0 7 1067 (w 1067 0 0) (hM.2 _ (u_12 0 (by decide))) k_12 (by decide) rfl rfl x_1249 rfl dX12_readEnd_1 ?_
  refine v_iconst (v := 4) C dX12_readEnd_4 (by decide) ?_
  refine v_ic_eq C 14 dX12_readEnd_5 (by decide) (fun c_5 => ?_) (fun c_5 => ?_)
  · refine v_aload_n C 0 dX12_readEnd_14 rfl ?_
    refine v_vV C 12 0 [] 0 (c_X12_go E hM _ _    (by clear C; exact hk.1) (by clear C; exact hk.2.1) (by clear C; exact hk.2.2.1) (by clear C; exact hk.2.2.2)) m_X12_go x_1487 x_1489 x_38 p_X12_go rfl ⟨Nat.le_of_ble_eq_true rfl, Nat.le_of_ble_eq_true rfl⟩ (hM.2 _ (u_12 0 (by decide))) k_12 rfl (Nat.le_of_ble_eq_true rfl) dX12_readEnd_15 (fun u1 v1 hp1 => ?_)
    have hu1 := hp1
    cases hu1
    refine v_iconst (v := 1) C dX12_readEnd_18 (by decide) ?_
    refine v_tS C 1069 0 (by decide) ?_
    refine v_tS C 1070 0 (by decide) ?_
    refine v_w (w2 := (wS (wS (wS (wS (wS (wS w 1065 0 (fun _ => (goG ((w 41 0), (w 1063 0 0), (w 1064 0 0)) ((w 1065 0 0), (w 1066 0 0), (w 1067 0 0), (w 1068 0 0), (z 1071 0 0))).1)) 1066 0 (fun _ => (goG ((w 41 0), (w 1063 0 0), (w 1064 0 0)) ((w 1065 0 0), (w 1066 0 0), (w 1067 0 0), (w 1068 0 0), (z 1071 0 0))).2.1)) 1067 0 (fun _ => (goG ((w 41 0), (w 1063 0 0), (w 1064 0 0)) ((w 1065 0 0), (w 1066 0 0), (w 1067 0 0), (w 1068 0 0), (z 1071 0 0))).2.2.1)) 1068 0 (fun _ => (goG ((w 41 0), (w 1063 0 0), (w 1064 0 0)) ((w 1065 0 0), (w 1066 0 0), (w 1067 0 0), (w 1068 0 0), (z 1071 0 0))).2.2.2.1)) 1069 0 (fun _ => (w 1069 0 0))) 1070 0 (fun _ => (w 1070 0 0)))) (by simp only [wS_s, wS_t, wS_a, ne_eq, Nat.reduceEqDiff, not_false_eq_true, wS_wS, wS_p, wS_pp, Nat.reduceLT, id_eq, L7_1]) ?_
    exact v_zret C dX12_readEnd_19 (by decide) ⟨(by clear C; simp only [rmG]; (first | rw [if_pos (show ¬ (w 1067 0 0) = 4 by clear hk; assumption)] | rw [if_neg (show ¬ ¬ (w 1067 0 0) = 4 from not_not_intro (by clear hk; assumption))]); first | done | rfl), (congr (congrArg Prod.mk (wS_eq (wS_eq (wS_eq (wS_eq (wS_eq (wS_eq rfl (fu_eq (by clear C; simp only [rmG]; (first | rw [if_pos (show ¬ (w 1067 0 0) = 4 by clear hk; assumption)] | rw [if_neg (show ¬ ¬ (w 1067 0 0) = 4 from not_not_intro (by clear hk; assumption))]); first | done | rfl))) (fu_eq (by clear C; simp only [rmG]; (first | rw [if_pos (show ¬ (w 1067 0 0) = 4 by clear hk; assumption)] | rw [if_neg (show ¬ ¬ (w 1067 0 0) = 4 from not_not_intro (by clear hk; assumption))]); first | done | rfl))) (fu_eq (by clear C; simp only [rmG]; (first | rw [if_pos (show ¬ (w 1067 0 0) = 4 by clear hk; assumption)] | rw [if_neg (show ¬ ¬ (w 1067 0 0) = 4 from not_not_intro (by clear hk; assumption))]); first | done | rfl))) (fu_eq (by clear C; simp only [rmG]; (first | rw [if_pos (show ¬ (w 1067 0 0) = 4 by clear hk; assumption)] | rw [if_neg (show ¬ ¬ (w 1067 0 0) = 4 from not_not_intro (by clear hk; assumption))]); first | done | rfl))) (fu_eq (by clear C; simp only [rmG]; (first | rw [if_pos (show ¬ (w 1067 0 0) = 4 by clear hk; assumption)] | rw [if_neg (show ¬ ¬ (w 1067 0 0) = 4 from not_not_intro (by clear hk; assumption))]); first | done | rfl))) (fu_eq (by clear C; simp only [rmG]; (first | rw [if_pos (show ¬ (w 1067 0 0) = 4 by clear hk; assumption)] | rw [if_neg (show ¬ ¬ (w 1067 0 0) = 4 from not_not_intro (by clear hk; assumption))]); first | done | rfl)))) (wS_eq rfl (fu_eq (by clear C; simp only [rmG]; (first | rw [if_pos (show ¬ (w 1067 0 0) = 4 by clear hk; assumption)] | rw [if_neg (show ¬ ¬ (w 1067 0 0) = 4 from not_not_intro (by clear hk; assumption))]); first | done | rfl))))⟩
  · refine v_aload_n C 0 dX12_readEnd_8 rfl ?_
    refine v_iconst (v := 1) C dX12_readEnd_9 (by decide) ?_
    refine v_vI C 12 0 [.int 1] 1 (c_X12_bad E hM _ _  1  ) m_X12_bad x_1522 x_1524 x_44 p_X12_bad rfl ⟨Nat.le_of_ble_eq_true rfl, Nat.le_of_ble_eq_true rfl⟩ (hM.2 _ (u_12 0 (by decide))) k_12 rfl (Nat.le_of_ble_eq_true rfl) dX12_readEnd_10 (fun r2 u2 v2 hp2 => ?_)
    obtain ⟨hr2, hu2⟩ := hp2
    subst hr2
    cases hu2
    refine v_tS C 1065 0 (by decide) ?_
    refine v_tS C 1066 0 (by decide) ?_
    refine v_tS C 1067 0 (by decide) ?_
    refine v_tS C 1068 0 (by decide) ?_
    refine v_tZ C 1071 0 (by decide) ?_
    refine v_w (w2 := (wS (wS (wS (wS (wS (wS w 1065 0 (fun _ => (w 1065 0 0))) 1066 0 (fun _ => (w 1066 0 0))) 1067 0 (fun _ => (w 1067 0 0))) 1068 0 (fun _ => (w 1068 0 0))) 1069 0 (fun _ => if (w 1067 0 0) = 1 then 1 else (1 : Int32))) 1070 0 (fun _ => (w 1066 0 0)))) (by simp only [wS_s, wS_t, wS_a, ne_eq, Nat.reduceEqDiff, not_false_eq_true, wS_wS, wS_p, wS_pp, Nat.reduceLT, id_eq, L7_1]) ?_
    exact v_zret C dX12_readEnd_13 (by decide) ⟨(by clear C; simp only [rmG]; (first | rw [if_pos (show ¬ (w 1067 0 0) = 4 by clear hk; assumption)] | rw [if_neg (show ¬ ¬ (w 1067 0 0) = 4 from not_not_intro (by clear hk; assumption))]); first | done | rfl), (congr (congrArg Prod.mk (wS_eq (wS_eq (wS_eq (wS_eq (wS_eq (wS_eq rfl (fu_eq (by clear C; simp only [rmG]; (first | rw [if_pos (show ¬ (w 1067 0 0) = 4 by clear hk; assumption)] | rw [if_neg (show ¬ ¬ (w 1067 0 0) = 4 from not_not_intro (by clear hk; assumption))]); first | done | rfl))) (fu_eq (by clear C; simp only [rmG]; (first | rw [if_pos (show ¬ (w 1067 0 0) = 4 by clear hk; assumption)] | rw [if_neg (show ¬ ¬ (w 1067 0 0) = 4 from not_not_intro (by clear hk; assumption))]); first | done | rfl))) (fu_eq (by clear C; simp only [rmG]; (first | rw [if_pos (show ¬ (w 1067 0 0) = 4 by clear hk; assumption)] | rw [if_neg (show ¬ ¬ (w 1067 0 0) = 4 from not_not_intro (by clear hk; assumption))]); first | done | rfl))) (fu_eq (by clear C; simp only [rmG]; (first | rw [if_pos (show ¬ (w 1067 0 0) = 4 by clear hk; assumption)] | rw [if_neg (show ¬ ¬ (w 1067 0 0) = 4 from not_not_intro (by clear hk; assumption))]); first | done | rfl))) (fu_eq (by clear C; simp only [rmG]; (first | rw [if_pos (show ¬ (w 1067 0 0) = 4 by clear hk; assumption)] | rw [if_neg (show ¬ ¬ (w 1067 0 0) = 4 from not_not_intro (by clear hk; assumption))]); first | done | rfl))) (fu_eq (by clear C; simp only [rmG]; (first | rw [if_pos (show ¬ (w 1067 0 0) = 4 by clear hk; assumption)] | rw [if_neg (show ¬ ¬ (w 1067 0 0) = 4 from not_not_intro (by clear hk; assumption))]); first | done | rfl)))) (wS_eq rfl (fu_eq (by clear C; simp only [rmG]; (first | rw [if_pos (show ¬ (w 1067 0 0) = 4 by clear hk; assumption)] | rw [if_neg (show ¬ ¬ (w 1067 0 0) = 4 from not_not_intro (by clear hk; assumption))]); first | done | rfl))))⟩
