abbrev P_X3_actHere (w : Wi) (z : Wj) : Int32 → WW → Prop := fun r_ u_ => r_ = (acT ((w 37 0), (w 661 0 0), (w 741 0 0)) ((w 743 0 0), (w 744 0 0), (w 742 0 0), (w 745 0 0), (w 746 0 0), (w 747 0 0))) ∧ u_ = (w, z)
set_option maxHeartbeats 4000000 in
set_option maxRecDepth 100000 in
theorem c_X3_actHere (E : En) (hE : q_ok E) (w : Wi) (z : Wj) (h1 : okT ((w 37 0), (w 661 0 0), (w 741 0 0)) ((w 743 0 0), (w 744 0 0), (w 742 0 0), (w 745 0 0), (w 746 0 0), (w 747 0 0))) : CsI M_X3_actHere E [.ref (E.ad 3 0)] w z (P_X3_actHere w z) := by
  refine csI_of (lv := [(0, .ref (E.ad 3 0))]) hE m_X3_actHere (Nat.le_of_ble_eq_true rfl) rfl ?_
  intro K A C0 SO
  have C : Cx K E A cX3_actHere 1 RX3 (some .int) { frames := 7, cells := 0, slots := 0, locals := 222 } := C0
  clear C0
  refine v_aload_n C 0 dX3_actHere_0 rfl ?_
  refine v_gR C 3 0 0 8 0 (C_m C (u_3 0 (by decide))) k_3 (by decide) x_263 (fun _ _ _ => rfl) dX3_actHere_1 ?_
  refine v_ldcS C SO (i := 14) (tx := "let") (by decide) dX3_actHere_4 ?_
  refine v_vsI C SO 8 0 [.ref (E.ad 69 14)] 1 (c_X8_isWord E hE _ _    14 (by decide) (by clear C SO; exact h1.2.2.1)) m_X8_isWord x_744 x_604 x_605 p_X8_isWord rfl ⟨Nat.le_of_ble_eq_true rfl, Nat.le_of_ble_eq_true rfl⟩ (C_m C (u_8 0 (by decide))) k_8 rfl (Nat.le_of_ble_eq_true rfl) dX3_actHere_6 (fun r1 u1 v1 hp1 => ?_)
  obtain ⟨hr1, hu1⟩ := hp1
  subst hr1
  cases hu1
  refine v_if_eq C 14 dX3_actHere_9 (by decide) (fun c_9 => ?_) (fun c_9 => ?_)
  · refine v_aload_n C 0 dX3_actHere_14 rfl ?_
    refine v_gR C 3 0 0 8 0 (C_m C (u_3 0 (by decide))) k_3 (by decide) x_263 (fun _ _ _ => rfl) dX3_actHere_15 ?_
    refine v_ldcS C SO (i := 15) (tx := "hold") (by decide) dX3_actHere_18 ?_
    refine v_vsI C SO 8 0 [.ref (E.ad 69 15)] 1 (c_X8_isWord E hE _ _    15 (by decide) (by clear C SO; exact h1.2.2.1)) m_X8_isWord x_744 x_604 x_605 p_X8_isWord rfl ⟨Nat.le_of_ble_eq_true rfl, Nat.le_of_ble_eq_true rfl⟩ (C_m C (u_8 0 (by decide))) k_8 rfl (Nat.le_of_ble_eq_true rfl) dX3_actHere_20 (fun r2 u2 v2 hp2 => ?_)
    obtain ⟨hr2, hu2⟩ := hp2
    subst hr2
    cases hu2
    refine v_if_eq C 28 dX3_actHere_23 (by decide) (fun c_23 => ?_) (fun c_23 => ?_)
    · refine v_aload_n C 0 dX3_actHere_28 rfl ?_
      refine v_gR C 3 0 0 8 0 (C_m C (u_3 0 (by decide))) k_3 (by decide) x_263 (fun _ _ _ => rfl) dX3_actHere_29 ?_
      refine v_ldcS C SO (i := 16) (tx := "draw") (by decide) dX3_actHere_32 ?_
      refine v_vsI C SO 8 0 [.ref (E.ad 69 16)] 1 (c_X8_isWord E hE _ _    16 (by decide) (by clear C SO; exact h1.2.2.1)) m_X8_isWord x_744 x_604 x_605 p_X8_isWord rfl ⟨Nat.le_of_ble_eq_true rfl, Nat.le_of_ble_eq_true rfl⟩ (C_m C (u_8 0 (by decide))) k_8 rfl (Nat.le_of_ble_eq_true rfl) dX3_actHere_34 (fun r3 u3 v3 hp3 => ?_)
      obtain ⟨hr3, hu3⟩ := hp3
      subst hr3
      cases hu3
      refine v_if_eq C 42 dX3_actHere_37 (by decide) (fun c_37 => ?_) (fun c_37 => ?_)
      · refine v_aload_n C 0 dX3_actHere_42 rfl ?_
        refine v_gR C 3 0 0 8 0 (C_m C (u_3 0 (by decide))) k_3 (by decide) x_263 (fun _ _ _ => rfl) dX3_actHere_43 ?_
        refine v_ldcS C SO (i := 17) (tx := "dump") (by decide) dX3_actHere_46 ?_
        refine v_vsI C SO 8 0 [.ref (E.ad 69 17)] 1 (c_X8_isWord E hE _ _    17 (by decide) (by clear C SO; exact h1.2.2.1)) m_X8_isWord x_744 x_604 x_605 p_X8_isWord rfl ⟨Nat.le_of_ble_eq_true rfl, Nat.le_of_ble_eq_true rfl⟩ (C_m C (u_8 0 (by decide))) k_8 rfl (Nat.le_of_ble_eq_true rfl) dX3_actHere_48 (fun r4 u4 v4 hp4 => ?_)
        obtain ⟨hr4, hu4⟩ := hp4
        subst hr4
        cases hu4
        refine v_if_eq C 58 dX3_actHere_51 (by decide) (fun c_51 => ?_) (fun c_51 => ?_)
        · refine v_iconst (v := (-1)) C dX3_actHere_58 (by decide) ?_
          exact v_iret C dX3_actHere_59 ⟨(by clear C SO; simp only [acT]; clear h1; grind), (congr (congrArg Prod.mk rfl) rfl)⟩
        · refine v_iconst (v := 3) C dX3_actHere_54 (by decide) ?_
          refine v_goto C 59 dX3_actHere_55 (by decide) ?_
          exact v_iret C dX3_actHere_59 ⟨(by clear C SO; simp only [acT]; clear h1; grind), (congr (congrArg Prod.mk rfl) rfl)⟩
      · refine v_iconst (v := 2) C dX3_actHere_40 (by decide) ?_
        exact v_iret C dX3_actHere_41 ⟨(by clear C SO; simp only [acT]; clear h1; grind), (congr (congrArg Prod.mk rfl) rfl)⟩
    · refine v_iconst (v := 1) C dX3_actHere_26 (by decide) ?_
      exact v_iret C dX3_actHere_27 ⟨(by clear C SO; simp only [acT]; clear h1; grind), (congr (congrArg Prod.mk rfl) rfl)⟩
  · refine v_iconst (v := 0) C dX3_actHere_12 (by decide) ?_
    exact v_iret C dX3_actHere_13 ⟨(by clear C SO; simp only [acT]; clear h1; grind), (congr (congrArg Prod.mk rfl) rfl)⟩
abbrev P_X3_readStep (w : Wi) (z : Wj) : Int32 → WW → Prop := fun r_ u_ => r_ = ((stT ((w 37 0), (w 661 0 0), (w 741 0 0)) ((w 743 0 0), (w 744 0 0), (w 742 0 0), (w 745 0 0), (w 746 0 0), (w 747 0 0)) ((w 420 1 0), (w 421 1 0), (w 27 1), (w 28 1), (w 29 1))).1) ∧ u_ = ((wS (wS (wS (wS (wS (wS (wS (wS (wS (wS w 27 1 ((stT ((w 37 0), (w 661 0 0), (w 741 0 0)) ((w 743 0 0), (w 744 0 0), (w 742 0 0), (w 745 0 0), (w 746 0 0), (w 747 0 0)) ((w 420 1 0), (w 421 1 0), (w 27 1), (w 28 1), (w 29 1))).2.2.2.2.1)) 28 1 ((stT ((w 37 0), (w 661 0 0), (w 741 0 0)) ((w 743 0 0), (w 744 0 0), (w 742 0 0), (w 745 0 0), (w 746 0 0), (w 747 0 0)) ((w 420 1 0), (w 421 1 0), (w 27 1), (w 28 1), (w 29 1))).2.2.2.2.2.1)) 29 1 ((stT ((w 37 0), (w 661 0 0), (w 741 0 0)) ((w 743 0 0), (w 744 0 0), (w 742 0 0), (w 745 0 0), (w 746 0 0), (w 747 0 0)) ((w 420 1 0), (w 421 1 0), (w 27 1), (w 28 1), (w 29 1))).2.2.2.2.2.2)) 420 1 (fun _ => (stT ((w 37 0), (w 661 0 0), (w 741 0 0)) ((w 743 0 0), (w 744 0 0), (w 742 0 0), (w 745 0 0), (w 746 0 0), (w 747 0 0)) ((w 420 1 0), (w 421 1 0), (w 27 1), (w 28 1), (w 29 1))).2.2.1)) 742 0 (fun _ => (stT ((w 37 0), (w 661 0 0), (w 741 0 0)) ((w 743 0 0), (w 744 0 0), (w 742 0 0), (w 745 0 0), (w 746 0 0), (w 747 0 0)) ((w 420 1 0), (w 421 1 0), (w 27 1), (w 28 1), (w 29 1))).2.1.2.2.1)) 743 0 (fun _ => (stT ((w 37 0), (w 661 0 0), (w 741 0 0)) ((w 743 0 0), (w 744 0 0), (w 742 0 0), (w 745 0 0), (w 746 0 0), (w 747 0 0)) ((w 420 1 0), (w 421 1 0), (w 27 1), (w 28 1), (w 29 1))).2.1.1)) 744 0 (fun _ => (stT ((w 37 0), (w 661 0 0), (w 741 0 0)) ((w 743 0 0), (w 744 0 0), (w 742 0 0), (w 745 0 0), (w 746 0 0), (w 747 0 0)) ((w 420 1 0), (w 421 1 0), (w 27 1), (w 28 1), (w 29 1))).2.1.2.1)) 745 0 (fun _ => (stT ((w 37 0), (w 661 0 0), (w 741 0 0)) ((w 743 0 0), (w 744 0 0), (w 742 0 0), (w 745 0 0), (w 746 0 0), (w 747 0 0)) ((w 420 1 0), (w 421 1 0), (w 27 1), (w 28 1), (w 29 1))).2.1.2.2.2.1)) 746 0 (fun _ => (stT ((w 37 0), (w 661 0 0), (w 741 0 0)) ((w 743 0 0), (w 744 0 0), (w 742 0 0), (w 745 0 0), (w 746 0 0), (w 747 0 0)) ((w 420 1 0), (w 421 1 0), (w 27 1), (w 28 1), (w 29 1))).2.1.2.2.2.2.1)) 747 0 (fun _ => (stT ((w 37 0), (w 661 0 0), (w 741 0 0)) ((w 743 0 0), (w 744 0 0), (w 742 0 0), (w 745 0 0), (w 746 0 0), (w 747 0 0)) ((w 420 1 0), (w 421 1 0), (w 27 1), (w 28 1), (w 29 1))).2.1.2.2.2.2.2)), z)
set_option maxHeartbeats 4000000 in
set_option maxRecDepth 100000 in
theorem c_X3_readStep (E : En) (hE : q_ok E) (w : Wi) (z : Wj) (h1 : okT ((w 37 0), (w 661 0 0), (w 741 0 0)) ((w 743 0 0), (w 744 0 0), (w 742 0 0), (w 745 0 0), (w 746 0 0), (w 747 0 0))) (h2 : 0 ≤ (w 420 1 0)) (h3 : (w 420 1 0) ≤ 20) : CsI M_X3_readStep E [.ref (E.ad 3 0)] w z (P_X3_readStep w z) := by
  refine csI_of (lv := [(0, .ref (E.ad 3 0))]) hE m_X3_readStep (Nat.le_of_ble_eq_true rfl) rfl ?_
  intro K A C0 SO
  have C : Cx K E A cX3_readStep 4 RX3 (some .boolean) { frames := 8, cells := 0, slots := 0, locals := 242 } := C0
  clear C0
  refine v_aload_n C 0 dX3_readStep_0 rfl ?_
  refine v_vsI C SO 3 0 [] 0 (c_X3_actHere E hE _ _    (by clear C SO; assumption)) m_X3_actHere x_752 x_754 x_9 p_X3_actHere rfl ⟨Nat.le_of_ble_eq_true rfl, Nat.le_of_ble_eq_true rfl⟩ (C_m C (u_3 0 (by decide))) k_3 rfl (Nat.le_of_ble_eq_true rfl) dX3_readStep_1 (fun r1 u1 v1 hp1 => ?_)
  obtain ⟨hr1, hu1⟩ := hp1
  subst hr1
  cases hu1
  have hL4 : ∀ (ac : Int32), (ac = acT ((w 37 0), (w 661 0 0), (w 741 0 0)) ((w 743 0 0), (w 744 0 0), (w 742 0 0), (w 745 0 0), (w 746 0 0), (w 747 0 0))) → V K E A 4 (QI K E A (P_X3_readStep w z)) 4 [(0, .ref (E.ad 3 0))] [.int ac] w z := by
    intro ac hinv
    have ea := hinv
    refine v_istore_n (lv2 := [(1, .int ac), (0, .ref (E.ad 3 0))]) C dX3_readStep_4 rfl (by decide) rfl ?_
    refine v_iload_n C 0 dX3_readStep_5 rfl ?_
    refine v_iconst (v := (-1)) C dX3_readStep_6 (by decide) ?_
    refine v_ic_ne C 19 dX3_readStep_7 (by decide) (fun c_7 => ?_) (fun c_7 => ?_)
    · refine v_aload_n C 1 dX3_readStep_19 rfl ?_
      refine v_gR C 3 0 1 4 1 (C_m C (u_3 0 (by decide))) k_3 (by decide) x_264 (fun _ _ _ => rfl) dX3_readStep_20 ?_
      refine v_gI C 4 1 0 420 (w 420 1 0) (C_m C (u_4 1 (by decide))) k_4 (by decide) rfl rfl x_244 rfl dX3_readStep_23 ?_
      refine v_bipush (v := 20) C dX3_readStep_26 (by decide) ?_
      refine v_ic_lt C 40 dX3_readStep_28 (by decide) (fun c_28 => ?_) (fun c_28 => ?_)
      · refine v_aload_n C 1 dX3_readStep_40 rfl ?_
        refine v_gR C 3 0 0 8 0 (C_m C (u_3 0 (by decide))) k_3 (by decide) x_263 (fun _ _ _ => rfl) dX3_readStep_41 ?_
        refine v_vV C 8 0 [] 0 (c_X8_read E hE _ _    (by clear C SO; assumption)) m_X8_read x_745 x_580 x_581 p_X8_read rfl ⟨Nat.le_of_ble_eq_true rfl, Nat.le_of_ble_eq_true rfl⟩ (C_m C (u_8 0 (by decide))) k_8 rfl (Nat.le_of_ble_eq_true rfl) dX3_readStep_44 (fun u2 v2 hp2 => ?_)
        have hu2 := hp2
        cases hu2
        have hL47 : ∀ (b1 : Int32) (b2 : Int32) (b3 : Int32) (b4 : Int32) (b5 : Int32) (b6 : Int32), ((b1, b2, b3, b4, b5, b6) = rdT ((w 37 0), (w 661 0 0), (w 741 0 0)) ((w 743 0 0), (w 744 0 0), (w 742 0 0), (w 745 0 0), (w 746 0 0), (w 747 0 0))) → V K E A 4 (QI K E A (P_X3_readStep w z)) 47 [(1, .int ac), (0, .ref (E.ad 3 0))] [] (wS (wS (wS (wS (wS (wS w 742 0 (fun _ => b3)) 743 0 (fun _ => b1)) 744 0 (fun _ => b2)) 745 0 (fun _ => b4)) 746 0 (fun _ => b5)) 747 0 (fun _ => b6)) z := by
          intro b1 b2 b3 b4 b5 b6 hinv
          have hB := hinv
          have hL66 : ∀ (am : Int32) (c1 : Int32) (c2 : Int32) (c3 : Int32) (c4 : Int32) (c5 : Int32) (c6 : Int32), ((am, c1, c2, c3, c4, c5, c6) = amT ((w 37 0), (w 661 0 0), (w 741 0 0)) ac (b1, b2, b3, b4, b5, b6)) → V K E A 4 (QI K E A (P_X3_readStep w z)) 66 [(1, .int ac), (0, .ref (E.ad 3 0))] [.int am] (wS (wS (wS (wS (wS (wS w 742 0 (fun _ => c3)) 743 0 (fun _ => c1)) 744 0 (fun _ => c2)) 745 0 (fun _ => c4)) 746 0 (fun _ => c5)) 747 0 (fun _ => c6)) z := by
            intro am c1 c2 c3 c4 c5 c6 hinv
            have hC := hinv
            refine v_istore_n (lv2 := [(2, .int am), (1, .int ac), (0, .ref (E.ad 3 0))]) C dX3_readStep_66 rfl (by decide) rfl ?_
            refine v_iload_n C 0 dX3_readStep_67 rfl ?_
            refine v_iconst (v := (-1)) C dX3_readStep_68 (by decide) ?_
            refine v_ic_ne C 74 dX3_readStep_69 (by decide) (fun c_69 => ?_) (fun c_69 => ?_)
            · refine v_aload_n C 2 dX3_readStep_74 rfl ?_
              refine v_gR C 3 0 0 8 0 (C_m C (u_3 0 (by decide))) k_3 (by decide) x_263 (fun _ _ _ => rfl) dX3_readStep_75 ?_
              refine v_iconst (v := 1) C dX3_readStep_78 (by decide) ?_
              refine v_bipush (v := 99) C dX3_readStep_79 (by decide) ?_
              refine v_vI C 8 0 [.int 1, .int 99] 2 (c_X8_takeNumber E hE _ _  1 99  (by clear C SO; (try simp only [wS_s, wS_t, wS_a, ne_eq, Nat.reduceEqDiff, not_false_eq_true]); have q := okT_am (x := ac) (okT_rd h1); rw [← hB, ← hC] at q; exact q)) m_X8_takeNumber x_761 x_665 x_666 p_X8_takeNumber rfl ⟨Nat.le_of_ble_eq_true rfl, Nat.le_of_ble_eq_true rfl⟩ (C_m C (u_8 0 (by decide))) k_8 rfl (Nat.le_of_ble_eq_true rfl) dX3_readStep_81 (fun r3 u3 v3 hp3 => ?_)
              obtain ⟨hr3, hu3⟩ := hp3
              subst hr3
              cases hu3
              refine v_i (y := (tnT ((w 37 0), (w 661 0 0), (w 741 0 0)) (1 : Int32) (99 : Int32) (c1, c2, c3, c4, c5, c6)).1) (by simp only [wS_s, wS_t, wS_a, ne_eq, Nat.reduceEqDiff, not_false_eq_true]) ?_
              refine v_w (w2 := (wS (wS (wS (wS (wS (wS w 742 0 (fun _ => (tnT ((w 37 0), (w 661 0 0), (w 741 0 0)) (1 : Int32) (99 : Int32) (c1, c2, c3, c4, c5, c6)).2.2.2.1)) 743 0 (fun _ => (tnT ((w 37 0), (w 661 0 0), (w 741 0 0)) (1 : Int32) (99 : Int32) (c1, c2, c3, c4, c5, c6)).2.1)) 744 0 (fun _ => (tnT ((w 37 0), (w 661 0 0), (w 741 0 0)) (1 : Int32) (99 : Int32) (c1, c2, c3, c4, c5, c6)).2.2.1)) 745 0 (fun _ => (tnT ((w 37 0), (w 661 0 0), (w 741 0 0)) (1 : Int32) (99 : Int32) (c1, c2, c3, c4, c5, c6)).2.2.2.2.1)) 746 0 (fun _ => (tnT ((w 37 0), (w 661 0 0), (w 741 0 0)) (1 : Int32) (99 : Int32) (c1, c2, c3, c4, c5, c6)).2.2.2.2.2.1)) 747 0 (fun _ => (tnT ((w 37 0), (w 661 0 0), (w 741 0 0)) (1 : Int32) (99 : Int32) (c1, c2, c3, c4, c5, c6)).2.2.2.2.2.2))) (by simp only [wS_s, wS_t, wS_a, ne_eq, Nat.reduceEqDiff, not_false_eq_true, wS_wS, wS_p, wS_pp, Nat.reduceLT, id_eq]) ?_
              have hL84 : ∀ (ti : Int32) (k1 : Int32) (k2 : Int32) (k3 : Int32) (k4 : Int32) (k5 : Int32) (k6 : Int32), ((ti, k1, k2, k3, k4, k5, k6) = tnT ((w 37 0), (w 661 0 0), (w 741 0 0)) 1 99 (c1, c2, c3, c4, c5, c6)) → V K E A 4 (QI K E A (P_X3_readStep w z)) 84 [(2, .int am), (1, .int ac), (0, .ref (E.ad 3 0))] [.int ti] (wS (wS (wS (wS (wS (wS w 742 0 (fun _ => k3)) 743 0 (fun _ => k1)) 744 0 (fun _ => k2)) 745 0 (fun _ => k4)) 746 0 (fun _ => k5)) 747 0 (fun _ => k6)) z := by
                intro ti k1 k2 k3 k4 k5 k6 hinv
                have hD := hinv
                refine v_istore_n (lv2 := [(3, .int ti), (2, .int am), (1, .int ac), (0, .ref (E.ad 3 0))]) C dX3_readStep_84 rfl (by decide) rfl ?_
                refine v_iload_n C 0 dX3_readStep_85 rfl ?_
                refine v_iconst (v := (-1)) C dX3_readStep_86 (by decide) ?_
                refine v_ic_ne C 92 dX3_readStep_87 (by decide) (fun c_87 => ?_) (fun c_87 => ?_)
                · refine v_aload_n C 3 dX3_readStep_92 rfl ?_
                  refine v_gR C 3 0 1 4 1 (C_m C (u_3 0 (by decide))) k_3 (by decide) x_264 (fun _ _ _ => rfl) dX3_readStep_93 ?_
                  refine v_iload_n C 2 dX3_readStep_96 rfl ?_
                  refine v_iload_n C 1 dX3_readStep_97 rfl ?_
                  refine v_iload_n C 0 dX3_readStep_98 rfl ?_
                  refine v_vV C 4 1 [.int ac, .int am, .int ti] 3 (c_X4_addStep E hE _ _ 1 (by decide) ac am ti  (by clear C SO; (try simp only [wS_s, wS_t, wS_a, ne_eq, Nat.reduceEqDiff, not_false_eq_true]); assumption) (by clear C SO; (try simp only [wS_s, wS_t, wS_a, ne_eq, Nat.reduceEqDiff, not_false_eq_true]); clear h1 hB hC hD; grind)) m_X4_addStep x_762 x_763 x_764 p_X4_addStep rfl ⟨Nat.le_of_ble_eq_true rfl, Nat.le_of_ble_eq_true rfl⟩ (C_m C (u_4 1 (by decide))) k_4 rfl (Nat.le_of_ble_eq_true rfl) dX3_readStep_99 (fun u4 v4 hp4 => ?_)
                  have hu4 := hp4
                  cases hu4
                  refine v_w (w2 := (wS (wS (wS (wS (wS (wS (wS (wS (wS (wS w 27 1 (upd (w 27 1) ((w 420 1 0)).toNatClampNeg ac)) 28 1 (upd (w 28 1) ((w 420 1 0)).toNatClampNeg am)) 29 1 (upd (w 29 1) ((w 420 1 0)).toNatClampNeg ((if 1 ≤ (w 420 1 0) ∧ (w 420 1 0) ≤ 20 then (w 29 1) ((w 420 1 0) - 1).toNatClampNeg else 0) + ti))) 420 1 (fun _ => (w 420 1 0) + 1)) 742 0 (fun _ => k3)) 743 0 (fun _ => k1)) 744 0 (fun _ => k2)) 745 0 (fun _ => k4)) 746 0 (fun _ => k5)) 747 0 (fun _ => k6))) (by simp only [wS_s, wS_t, wS_a, ne_eq, Nat.reduceEqDiff, not_false_eq_true, wS_wS, wS_p, wS_pp, Nat.reduceLT, id_eq]) ?_
                  refine v_iconst (v := 1) C dX3_readStep_102 (by decide) ?_
                  exact v_zret C dX3_readStep_103 (by decide) ⟨(by clear C SO; simp only [stT]; rw [← ea, if_neg (show ¬ ac = (-1) by assumption), if_neg (show ¬ ¬ (w 420 1 0) < 20 by clear h1; grind), ← hB, ← hC, if_neg (show ¬ am = (-1) by assumption)]; dsimp only; rw [← hD, if_neg (show ¬ ti = (-1) by assumption)]; first | done | rfl), (congr (congrArg Prod.mk (wS_eq (wS_eq (wS_eq (wS_eq (wS_eq (wS_eq (wS_eq (wS_eq (wS_eq (wS_eq rfl (by clear C SO; simp only [stT]; rw [← ea, if_neg (show ¬ ac = (-1) by assumption), if_neg (show ¬ ¬ (w 420 1 0) < 20 by clear h1; grind), ← hB, ← hC, if_neg (show ¬ am = (-1) by assumption)]; dsimp only; rw [← hD, if_neg (show ¬ ti = (-1) by assumption)]; first | done | rfl)) (by clear C SO; simp only [stT]; rw [← ea, if_neg (show ¬ ac = (-1) by assumption), if_neg (show ¬ ¬ (w 420 1 0) < 20 by clear h1; grind), ← hB, ← hC, if_neg (show ¬ am = (-1) by assumption)]; dsimp only; rw [← hD, if_neg (show ¬ ti = (-1) by assumption)]; first | done | rfl)) (by clear C SO; simp only [stT]; rw [← ea, if_neg (show ¬ ac = (-1) by assumption), if_neg (show ¬ ¬ (w 420 1 0) < 20 by clear h1; grind), ← hB, ← hC, if_neg (show ¬ am = (-1) by assumption)]; dsimp only; rw [← hD, if_neg (show ¬ ti = (-1) by assumption)]; first | done | rfl)) (fu_eq (by clear C SO; simp only [stT]; rw [← ea, if_neg (show ¬ ac = (-1) by assumption), if_neg (show ¬ ¬ (w 420 1 0) < 20 by clear h1; grind), ← hB, ← hC, if_neg (show ¬ am = (-1) by assumption)]; dsimp only; rw [← hD, if_neg (show ¬ ti = (-1) by assumption)]; first | done | rfl))) (fu_eq (by clear C SO; simp only [stT]; rw [← ea, if_neg (show ¬ ac = (-1) by assumption), if_neg (show ¬ ¬ (w 420 1 0) < 20 by clear h1; grind), ← hB, ← hC, if_neg (show ¬ am = (-1) by assumption)]; dsimp only; rw [← hD, if_neg (show ¬ ti = (-1) by assumption)]; first | done | rfl))) (fu_eq (by clear C SO; simp only [stT]; rw [← ea, if_neg (show ¬ ac = (-1) by assumption), if_neg (show ¬ ¬ (w 420 1 0) < 20 by clear h1; grind), ← hB, ← hC, if_neg (show ¬ am = (-1) by assumption)]; dsimp only; rw [← hD, if_neg (show ¬ ti = (-1) by assumption)]; first | done | rfl))) (fu_eq (by clear C SO; simp only [stT]; rw [← ea, if_neg (show ¬ ac = (-1) by assumption), if_neg (show ¬ ¬ (w 420 1 0) < 20 by clear h1; grind), ← hB, ← hC, if_neg (show ¬ am = (-1) by assumption)]; dsimp only; rw [← hD, if_neg (show ¬ ti = (-1) by assumption)]; first | done | rfl))) (fu_eq (by clear C SO; simp only [stT]; rw [← ea, if_neg (show ¬ ac = (-1) by assumption), if_neg (show ¬ ¬ (w 420 1 0) < 20 by clear h1; grind), ← hB, ← hC, if_neg (show ¬ am = (-1) by assumption)]; dsimp only; rw [← hD, if_neg (show ¬ ti = (-1) by assumption)]; first | done | rfl))) (fu_eq (by clear C SO; simp only [stT]; rw [← ea, if_neg (show ¬ ac = (-1) by assumption), if_neg (show ¬ ¬ (w 420 1 0) < 20 by clear h1; grind), ← hB, ← hC, if_neg (show ¬ am = (-1) by assumption)]; dsimp only; rw [← hD, if_neg (show ¬ ti = (-1) by assumption)]; first | done | rfl))) (fu_eq (by clear C SO; simp only [stT]; rw [← ea, if_neg (show ¬ ac = (-1) by assumption), if_neg (show ¬ ¬ (w 420 1 0) < 20 by clear h1; grind), ← hB, ← hC, if_neg (show ¬ am = (-1) by assumption)]; dsimp only; rw [← hD, if_neg (show ¬ ti = (-1) by assumption)]; first | done | rfl)))) rfl)⟩
                · refine v_iconst (v := 0) C dX3_readStep_90 (by decide) ?_
                  refine v_w (wS_id _ 27 1).symm ?_
                  refine v_w (wS_id _ 28 1).symm ?_
                  refine v_w (wS_id _ 29 1).symm ?_
                  refine v_tS C 420 1 (by decide) ?_
                  refine v_w (w2 := (wS (wS (wS (wS (wS (wS (wS (wS (wS (wS w 27 1 (w 27 1)) 28 1 (w 28 1)) 29 1 (w 29 1)) 420 1 (fun _ => (w 420 1 0))) 742 0 (fun _ => k3)) 743 0 (fun _ => k1)) 744 0 (fun _ => k2)) 745 0 (fun _ => k4)) 746 0 (fun _ => k5)) 747 0 (fun _ => k6))) (by simp only [wS_s, wS_t, wS_a, ne_eq, Nat.reduceEqDiff, not_false_eq_true, wS_wS, wS_p, wS_pp, Nat.reduceLT, id_eq]) ?_
                  exact v_zret C dX3_readStep_91 (by decide) ⟨(by clear C SO; simp only [stT]; rw [← ea, if_neg (by assumption), if_neg (show ¬ ¬ (w 420 1 0) < 20 by clear h1; grind), ← hB, ← hC, if_neg (show ¬ am = (-1) by assumption)]; dsimp only; rw [← hD, if_pos (show ti = (-1) by assumption)]), (congr (congrArg Prod.mk (wS_eq (wS_eq (wS_eq (wS_eq (wS_eq (wS_eq (wS_eq (wS_eq (wS_eq (wS_eq rfl (by clear C SO; simp only [stT]; rw [← ea, if_neg (by assumption), if_neg (show ¬ ¬ (w 420 1 0) < 20 by clear h1; grind), ← hB, ← hC, if_neg (show ¬ am = (-1) by assumption)]; dsimp only; rw [← hD, if_pos (show ti = (-1) by assumption)])) (by clear C SO; simp only [stT]; rw [← ea, if_neg (by assumption), if_neg (show ¬ ¬ (w 420 1 0) < 20 by clear h1; grind), ← hB, ← hC, if_neg (show ¬ am = (-1) by assumption)]; dsimp only; rw [← hD, if_pos (show ti = (-1) by assumption)])) (by clear C SO; simp only [stT]; rw [← ea, if_neg (by assumption), if_neg (show ¬ ¬ (w 420 1 0) < 20 by clear h1; grind), ← hB, ← hC, if_neg (show ¬ am = (-1) by assumption)]; dsimp only; rw [← hD, if_pos (show ti = (-1) by assumption)])) (fu_eq (by clear C SO; simp only [stT]; rw [← ea, if_neg (by assumption), if_neg (show ¬ ¬ (w 420 1 0) < 20 by clear h1; grind), ← hB, ← hC, if_neg (show ¬ am = (-1) by assumption)]; dsimp only; rw [← hD, if_pos (show ti = (-1) by assumption)]))) (fu_eq (by clear C SO; simp only [stT]; rw [← ea, if_neg (by assumption), if_neg (show ¬ ¬ (w 420 1 0) < 20 by clear h1; grind), ← hB, ← hC, if_neg (show ¬ am = (-1) by assumption)]; dsimp only; rw [← hD, if_pos (show ti = (-1) by assumption)]))) (fu_eq (by clear C SO; simp only [stT]; rw [← ea, if_neg (by assumption), if_neg (show ¬ ¬ (w 420 1 0) < 20 by clear h1; grind), ← hB, ← hC, if_neg (show ¬ am = (-1) by assumption)]; dsimp only; rw [← hD, if_pos (show ti = (-1) by assumption)]))) (fu_eq (by clear C SO; simp only [stT]; rw [← ea, if_neg (by assumption), if_neg (show ¬ ¬ (w 420 1 0) < 20 by clear h1; grind), ← hB, ← hC, if_neg (show ¬ am = (-1) by assumption)]; dsimp only; rw [← hD, if_pos (show ti = (-1) by assumption)]))) (fu_eq (by clear C SO; simp only [stT]; rw [← ea, if_neg (by assumption), if_neg (show ¬ ¬ (w 420 1 0) < 20 by clear h1; grind), ← hB, ← hC, if_neg (show ¬ am = (-1) by assumption)]; dsimp only; rw [← hD, if_pos (show ti = (-1) by assumption)]))) (fu_eq (by clear C SO; simp only [stT]; rw [← ea, if_neg (by assumption), if_neg (show ¬ ¬ (w 420 1 0) < 20 by clear h1; grind), ← hB, ← hC, if_neg (show ¬ am = (-1) by assumption)]; dsimp only; rw [← hD, if_pos (show ti = (-1) by assumption)]))) (fu_eq (by clear C SO; simp only [stT]; rw [← ea, if_neg (by assumption), if_neg (show ¬ ¬ (w 420 1 0) < 20 by clear h1; grind), ← hB, ← hC, if_neg (show ¬ am = (-1) by assumption)]; dsimp only; rw [← hD, if_pos (show ti = (-1) by assumption)])))) rfl)⟩
              exact hL84 ((tnT ((w 37 0), (w 661 0 0), (w 741 0 0)) (1 : Int32) (99 : Int32) (c1, c2, c3, c4, c5, c6)).1) ((tnT ((w 37 0), (w 661 0 0), (w 741 0 0)) (1 : Int32) (99 : Int32) (c1, c2, c3, c4, c5, c6)).2.1) ((tnT ((w 37 0), (w 661 0 0), (w 741 0 0)) (1 : Int32) (99 : Int32) (c1, c2, c3, c4, c5, c6)).2.2.1) ((tnT ((w 37 0), (w 661 0 0), (w 741 0 0)) (1 : Int32) (99 : Int32) (c1, c2, c3, c4, c5, c6)).2.2.2.1) ((tnT ((w 37 0), (w 661 0 0), (w 741 0 0)) (1 : Int32) (99 : Int32) (c1, c2, c3, c4, c5, c6)).2.2.2.2.1) ((tnT ((w 37 0), (w 661 0 0), (w 741 0 0)) (1 : Int32) (99 : Int32) (c1, c2, c3, c4, c5, c6)).2.2.2.2.2.1) ((tnT ((w 37 0), (w 661 0 0), (w 741 0 0)) (1 : Int32) (99 : Int32) (c1, c2, c3, c4, c5, c6)).2.2.2.2.2.2) (by clear C SO hL84; rfl)
            · refine v_iconst (v := 0) C dX3_readStep_72 (by decide) ?_
              refine v_w (wS_id _ 27 1).symm ?_
              refine v_w (wS_id _ 28 1).symm ?_
              refine v_w (wS_id _ 29 1).symm ?_
              refine v_tS C 420 1 (by decide) ?_
              refine v_w (w2 := (wS (wS (wS (wS (wS (wS (wS (wS (wS (wS w 27 1 (w 27 1)) 28 1 (w 28 1)) 29 1 (w 29 1)) 420 1 (fun _ => (w 420 1 0))) 742 0 (fun _ => c3)) 743 0 (fun _ => c1)) 744 0 (fun _ => c2)) 745 0 (fun _ => c4)) 746 0 (fun _ => c5)) 747 0 (fun _ => c6))) (by simp only [wS_s, wS_t, wS_a, ne_eq, Nat.reduceEqDiff, not_false_eq_true, wS_wS, wS_p, wS_pp, Nat.reduceLT, id_eq]) ?_
              exact v_zret C dX3_readStep_73 (by decide) ⟨(by clear C SO; simp only [stT]; rw [← ea, if_neg (by assumption), if_neg (show ¬ ¬ (w 420 1 0) < 20 by clear h1; grind), ← hB, ← hC, if_pos (show am = (-1) by assumption)]), (congr (congrArg Prod.mk (wS_eq (wS_eq (wS_eq (wS_eq (wS_eq (wS_eq (wS_eq (wS_eq (wS_eq (wS_eq rfl (by clear C SO; simp only [stT]; rw [← ea, if_neg (by assumption), if_neg (show ¬ ¬ (w 420 1 0) < 20 by clear h1; grind), ← hB, ← hC, if_pos (show am = (-1) by assumption)])) (by clear C SO; simp only [stT]; rw [← ea, if_neg (by assumption), if_neg (show ¬ ¬ (w 420 1 0) < 20 by clear h1; grind), ← hB, ← hC, if_pos (show am = (-1) by assumption)])) (by clear C SO; simp only [stT]; rw [← ea, if_neg (by assumption), if_neg (show ¬ ¬ (w 420 1 0) < 20 by clear h1; grind), ← hB, ← hC, if_pos (show am = (-1) by assumption)])) (fu_eq (by clear C SO; simp only [stT]; rw [← ea, if_neg (by assumption), if_neg (show ¬ ¬ (w 420 1 0) < 20 by clear h1; grind), ← hB, ← hC, if_pos (show am = (-1) by assumption)]))) (fu_eq (by clear C SO; simp only [stT]; rw [← ea, if_neg (by assumption), if_neg (show ¬ ¬ (w 420 1 0) < 20 by clear h1; grind), ← hB, ← hC, if_pos (show am = (-1) by assumption)]))) (fu_eq (by clear C SO; simp only [stT]; rw [← ea, if_neg (by assumption), if_neg (show ¬ ¬ (w 420 1 0) < 20 by clear h1; grind), ← hB, ← hC, if_pos (show am = (-1) by assumption)]))) (fu_eq (by clear C SO; simp only [stT]; rw [← ea, if_neg (by assumption), if_neg (show ¬ ¬ (w 420 1 0) < 20 by clear h1; grind), ← hB, ← hC, if_pos (show am = (-1) by assumption)]))) (fu_eq (by clear C SO; simp only [stT]; rw [← ea, if_neg (by assumption), if_neg (show ¬ ¬ (w 420 1 0) < 20 by clear h1; grind), ← hB, ← hC, if_pos (show am = (-1) by assumption)]))) (fu_eq (by clear C SO; simp only [stT]; rw [← ea, if_neg (by assumption), if_neg (show ¬ ¬ (w 420 1 0) < 20 by clear h1; grind), ← hB, ← hC, if_pos (show am = (-1) by assumption)]))) (fu_eq (by clear C SO; simp only [stT]; rw [← ea, if_neg (by assumption), if_neg (show ¬ ¬ (w 420 1 0) < 20 by clear h1; grind), ← hB, ← hC, if_pos (show am = (-1) by assumption)])))) rfl)⟩
          refine v_iload_n C 0 dX3_readStep_47 rfl ?_
          refine v_iconst (v := 2) C dX3_readStep_48 (by decide) ?_
          refine v_ic_ne C 65 dX3_readStep_49 (by decide) (fun c_49 => ?_) (fun c_49 => ?_)
          · refine v_iconst (v := 0) C dX3_readStep_65 (by decide) ?_
            exact hL66 0 b1 b2 b3 b4 b5 b6 (by clear C SO hL66; simp only [amT]; first | (rw [if_pos (by assumption)]; done) | (rw [if_neg (by assumption)]; done))
          · refine v_aload_n C 1 dX3_readStep_52 rfl ?_
            refine v_gR C 3 0 0 8 0 (C_m C (u_3 0 (by decide))) k_3 (by decide) x_263 (fun _ _ _ => rfl) dX3_readStep_53 ?_
            refine v_iconst (v := 1) C dX3_readStep_56 (by decide) ?_
            refine v_bipush (v := 99) C dX3_readStep_57 (by decide) ?_
            refine v_vI C 8 0 [.int 1, .int 99] 2 (c_X8_takeNumber E hE _ _  1 99  (by clear C SO hL66; (try simp only [wS_s, wS_t, wS_a, ne_eq, Nat.reduceEqDiff, not_false_eq_true]); rw [hB]; exact okT_rd h1)) m_X8_takeNumber x_761 x_665 x_666 p_X8_takeNumber rfl ⟨Nat.le_of_ble_eq_true rfl, Nat.le_of_ble_eq_true rfl⟩ (C_m C (u_8 0 (by decide))) k_8 rfl (Nat.le_of_ble_eq_true rfl) dX3_readStep_59 (fun r5 u5 v5 hp5 => ?_)
            obtain ⟨hr5, hu5⟩ := hp5
            subst hr5
            cases hu5
            refine v_i (y := (tnT ((w 37 0), (w 661 0 0), (w 741 0 0)) (1 : Int32) (99 : Int32) (b1, b2, b3, b4, b5, b6)).1) (by simp only [wS_s, wS_t, wS_a, ne_eq, Nat.reduceEqDiff, not_false_eq_true]) ?_
            refine v_w (w2 := (wS (wS (wS (wS (wS (wS w 742 0 (fun _ => (tnT ((w 37 0), (w 661 0 0), (w 741 0 0)) (1 : Int32) (99 : Int32) (b1, b2, b3, b4, b5, b6)).2.2.2.1)) 743 0 (fun _ => (tnT ((w 37 0), (w 661 0 0), (w 741 0 0)) (1 : Int32) (99 : Int32) (b1, b2, b3, b4, b5, b6)).2.1)) 744 0 (fun _ => (tnT ((w 37 0), (w 661 0 0), (w 741 0 0)) (1 : Int32) (99 : Int32) (b1, b2, b3, b4, b5, b6)).2.2.1)) 745 0 (fun _ => (tnT ((w 37 0), (w 661 0 0), (w 741 0 0)) (1 : Int32) (99 : Int32) (b1, b2, b3, b4, b5, b6)).2.2.2.2.1)) 746 0 (fun _ => (tnT ((w 37 0), (w 661 0 0), (w 741 0 0)) (1 : Int32) (99 : Int32) (b1, b2, b3, b4, b5, b6)).2.2.2.2.2.1)) 747 0 (fun _ => (tnT ((w 37 0), (w 661 0 0), (w 741 0 0)) (1 : Int32) (99 : Int32) (b1, b2, b3, b4, b5, b6)).2.2.2.2.2.2))) (by simp only [wS_s, wS_t, wS_a, ne_eq, Nat.reduceEqDiff, not_false_eq_true, wS_wS, wS_p, wS_pp, Nat.reduceLT, id_eq]) ?_
            refine v_goto C 66 dX3_readStep_62 (by decide) ?_
            exact hL66 ((tnT ((w 37 0), (w 661 0 0), (w 741 0 0)) (1 : Int32) (99 : Int32) (b1, b2, b3, b4, b5, b6)).1) ((tnT ((w 37 0), (w 661 0 0), (w 741 0 0)) (1 : Int32) (99 : Int32) (b1, b2, b3, b4, b5, b6)).2.1) ((tnT ((w 37 0), (w 661 0 0), (w 741 0 0)) (1 : Int32) (99 : Int32) (b1, b2, b3, b4, b5, b6)).2.2.1) ((tnT ((w 37 0), (w 661 0 0), (w 741 0 0)) (1 : Int32) (99 : Int32) (b1, b2, b3, b4, b5, b6)).2.2.2.1) ((tnT ((w 37 0), (w 661 0 0), (w 741 0 0)) (1 : Int32) (99 : Int32) (b1, b2, b3, b4, b5, b6)).2.2.2.2.1) ((tnT ((w 37 0), (w 661 0 0), (w 741 0 0)) (1 : Int32) (99 : Int32) (b1, b2, b3, b4, b5, b6)).2.2.2.2.2.1) ((tnT ((w 37 0), (w 661 0 0), (w 741 0 0)) (1 : Int32) (99 : Int32) (b1, b2, b3, b4, b5, b6)).2.2.2.2.2.2) (by clear C SO hL66; simp only [amT]; first | (rw [if_pos (by assumption)]; done) | (rw [if_neg (by assumption)]; done))
        refine v_tS C 746 0 (by decide) ?_
        refine v_tS C 747 0 (by decide) ?_
        refine v_w (w2 := (wS (wS (wS (wS (wS (wS w 742 0 (fun _ => (rdT ((w 37 0), (w 661 0 0), (w 741 0 0)) ((w 743 0 0), (w 744 0 0), (w 742 0 0), (w 745 0 0), (w 746 0 0), (w 747 0 0))).2.2.1)) 743 0 (fun _ => (rdT ((w 37 0), (w 661 0 0), (w 741 0 0)) ((w 743 0 0), (w 744 0 0), (w 742 0 0), (w 745 0 0), (w 746 0 0), (w 747 0 0))).1)) 744 0 (fun _ => (rdT ((w 37 0), (w 661 0 0), (w 741 0 0)) ((w 743 0 0), (w 744 0 0), (w 742 0 0), (w 745 0 0), (w 746 0 0), (w 747 0 0))).2.1)) 745 0 (fun _ => (rdT ((w 37 0), (w 661 0 0), (w 741 0 0)) ((w 743 0 0), (w 744 0 0), (w 742 0 0), (w 745 0 0), (w 746 0 0), (w 747 0 0))).2.2.2.1)) 746 0 (fun _ => (w 746 0 0))) 747 0 (fun _ => (w 747 0 0)))) (by simp only [wS_s, wS_t, wS_a, ne_eq, Nat.reduceEqDiff, not_false_eq_true, wS_wS, wS_p, wS_pp, Nat.reduceLT, id_eq]) ?_
        exact hL47 ((rdT ((w 37 0), (w 661 0 0), (w 741 0 0)) ((w 743 0 0), (w 744 0 0), (w 742 0 0), (w 745 0 0), (w 746 0 0), (w 747 0 0))).1) ((rdT ((w 37 0), (w 661 0 0), (w 741 0 0)) ((w 743 0 0), (w 744 0 0), (w 742 0 0), (w 745 0 0), (w 746 0 0), (w 747 0 0))).2.1) ((rdT ((w 37 0), (w 661 0 0), (w 741 0 0)) ((w 743 0 0), (w 744 0 0), (w 742 0 0), (w 745 0 0), (w 746 0 0), (w 747 0 0))).2.2.1) ((rdT ((w 37 0), (w 661 0 0), (w 741 0 0)) ((w 743 0 0), (w 744 0 0), (w 742 0 0), (w 745 0 0), (w 746 0 0), (w 747 0 0))).2.2.2.1) (w 746 0 0) (w 747 0 0) (by clear C SO hL47; exact rdT_eta _ _ _ _ _ _ _)
      · refine v_aload_n C 1 dX3_readStep_31 rfl ?_
        refine v_gR C 3 0 0 8 0 (C_m C (u_3 0 (by decide))) k_3 (by decide) x_263 (fun _ _ _ => rfl) dX3_readStep_32 ?_
        refine v_iconst (v := 4) C dX3_readStep_35 (by decide) ?_
        refine v_vI C 8 0 [.int 4] 1 (c_X8_refuse E hE _ _  4  ) m_X8_refuse x_760 x_660 x_661 p_X8_refuse rfl ⟨Nat.le_of_ble_eq_true rfl, Nat.le_of_ble_eq_true rfl⟩ (C_m C (u_8 0 (by decide))) k_8 rfl (Nat.le_of_ble_eq_true rfl) dX3_readStep_36 (fun r6 u6 v6 hp6 => ?_)
        obtain ⟨hr6, hu6⟩ := hp6
        subst hr6
        cases hu6
        refine v_w (wS_id _ 27 1).symm ?_
        refine v_w (wS_id _ 28 1).symm ?_
        refine v_w (wS_id _ 29 1).symm ?_
        refine v_tS C 420 1 (by decide) ?_
        refine v_tS C 742 0 (by decide) ?_
        refine v_tS C 743 0 (by decide) ?_
        refine v_tS C 744 0 (by decide) ?_
        refine v_tS C 745 0 (by decide) ?_
        refine v_w (w2 := (wS (wS (wS (wS (wS (wS (wS (wS (wS (wS w 27 1 (w 27 1)) 28 1 (w 28 1)) 29 1 (w 29 1)) 420 1 (fun _ => (w 420 1 0))) 742 0 (fun _ => (w 742 0 0))) 743 0 (fun _ => (w 743 0 0))) 744 0 (fun _ => (w 744 0 0))) 745 0 (fun _ => (w 745 0 0))) 746 0 (fun _ => 4)) 747 0 (fun _ => (w 743 0 0)))) (by simp only [wS_s, wS_t, wS_a, ne_eq, Nat.reduceEqDiff, not_false_eq_true, wS_wS, wS_p, wS_pp, Nat.reduceLT, id_eq]) ?_
        exact v_zret C dX3_readStep_39 (by decide) ⟨(by clear C SO; simp only [stT]; rw [← ea, if_neg (by assumption), if_pos (by clear h1; grind)]; first | done | rfl), (congr (congrArg Prod.mk (wS_eq (wS_eq (wS_eq (wS_eq (wS_eq (wS_eq (wS_eq (wS_eq (wS_eq (wS_eq rfl (by clear C SO; simp only [stT]; rw [← ea, if_neg (by assumption), if_pos (by clear h1; grind)]; first | done | rfl)) (by clear C SO; simp only [stT]; rw [← ea, if_neg (by assumption), if_pos (by clear h1; grind)]; first | done | rfl)) (by clear C SO; simp only [stT]; rw [← ea, if_neg (by assumption), if_pos (by clear h1; grind)]; first | done | rfl)) (fu_eq (by clear C SO; simp only [stT]; rw [← ea, if_neg (by assumption), if_pos (by clear h1; grind)]; first | done | rfl))) (fu_eq (by clear C SO; simp only [stT]; rw [← ea, if_neg (by assumption), if_pos (by clear h1; grind)]; first | done | rfl))) (fu_eq (by clear C SO; simp only [stT]; rw [← ea, if_neg (by assumption), if_pos (by clear h1; grind)]; first | done | rfl))) (fu_eq (by clear C SO; simp only [stT]; rw [← ea, if_neg (by assumption), if_pos (by clear h1; grind)]; first | done | rfl))) (fu_eq (by clear C SO; simp only [stT]; rw [← ea, if_neg (by assumption), if_pos (by clear h1; grind)]; first | done | rfl))) (fu_eq (by clear C SO; simp only [stT]; rw [← ea, if_neg (by assumption), if_pos (by clear h1; grind)]; first | done | rfl))) (fu_eq (by clear C SO; simp only [stT]; rw [← ea, if_neg (by assumption), if_pos (by clear h1; grind)]; first | done | rfl)))) rfl)⟩
    · refine v_aload_n C 1 dX3_readStep_10 rfl ?_
      refine v_gR C 3 0 0 8 0 (C_m C (u_3 0 (by decide))) k_3 (by decide) x_263 (fun _ _ _ => rfl) dX3_readStep_11 ?_
      refine v_iconst (v := 1) C dX3_readStep_14 (by decide) ?_
      refine v_vI C 8 0 [.int 1] 1 (c_X8_refuse E hE _ _  1  ) m_X8_refuse x_760 x_660 x_661 p_X8_refuse rfl ⟨Nat.le_of_ble_eq_true rfl, Nat.le_of_ble_eq_true rfl⟩ (C_m C (u_8 0 (by decide))) k_8 rfl (Nat.le_of_ble_eq_true rfl) dX3_readStep_15 (fun r7 u7 v7 hp7 => ?_)
      obtain ⟨hr7, hu7⟩ := hp7
      subst hr7
      cases hu7
      refine v_w (wS_id _ 27 1).symm ?_
      refine v_w (wS_id _ 28 1).symm ?_
      refine v_w (wS_id _ 29 1).symm ?_
      refine v_tS C 420 1 (by decide) ?_
      refine v_tS C 742 0 (by decide) ?_
      refine v_tS C 743 0 (by decide) ?_
      refine v_tS C 744 0 (by decide) ?_
      refine v_tS C 745 0 (by decide) ?_
      refine v_w (w2 := (wS (wS (wS (wS (wS (wS (wS (wS (wS (wS w 27 1 (w 27 1)) 28 1 (w 28 1)) 29 1 (w 29 1)) 420 1 (fun _ => (w 420 1 0))) 742 0 (fun _ => (w 742 0 0))) 743 0 (fun _ => (w 743 0 0))) 744 0 (fun _ => (w 744 0 0))) 745 0 (fun _ => (w 745 0 0))) 746 0 (fun _ => 1)) 747 0 (fun _ => (w 743 0 0)))) (by simp only [wS_s, wS_t, wS_a, ne_eq, Nat.reduceEqDiff, not_false_eq_true, wS_wS, wS_p, wS_pp, Nat.reduceLT, id_eq]) ?_
      exact v_zret C dX3_readStep_18 (by decide) ⟨(by clear C SO; simp only [stT]; rw [← ea, if_pos (by assumption)]; first | done | rfl), (congr (congrArg Prod.mk (wS_eq (wS_eq (wS_eq (wS_eq (wS_eq (wS_eq (wS_eq (wS_eq (wS_eq (wS_eq rfl (by clear C SO; simp only [stT]; rw [← ea, if_pos (by assumption)]; first | done | rfl)) (by clear C SO; simp only [stT]; rw [← ea, if_pos (by assumption)]; first | done | rfl)) (by clear C SO; simp only [stT]; rw [← ea, if_pos (by assumption)]; first | done | rfl)) (fu_eq (by clear C SO; simp only [stT]; rw [← ea, if_pos (by assumption)]; first | done | rfl))) (fu_eq (by clear C SO; simp only [stT]; rw [← ea, if_pos (by assumption)]; first | done | rfl))) (fu_eq (by clear C SO; simp only [stT]; rw [← ea, if_pos (by assumption)]; first | done | rfl))) (fu_eq (by clear C SO; simp only [stT]; rw [← ea, if_pos (by assumption)]; first | done | rfl))) (fu_eq (by clear C SO; simp only [stT]; rw [← ea, if_pos (by assumption)]; first | done | rfl))) (fu_eq (by clear C SO; simp only [stT]; rw [← ea, if_pos (by assumption)]; first | done | rfl))) (fu_eq (by clear C SO; simp only [stT]; rw [← ea, if_pos (by assumption)]; first | done | rfl)))) rfl)⟩
  exact hL4 (acT ((w 37 0), (w 661 0 0), (w 741 0 0)) ((w 743 0 0), (w 744 0 0), (w 742 0 0), (w 745 0 0), (w 746 0 0), (w 747 0 0))) (by clear C SO hL4; rfl)
