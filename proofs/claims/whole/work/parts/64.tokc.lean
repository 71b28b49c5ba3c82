abbrev P_X8_takeNumber (w : Wi) (z : Wj) (a1 : Int32) (b1 : Int32) : Int32 → WW → Prop := fun r_ u_ => r_ = ((tnT ((w 37 0), (w 661 0 0), (w 741 0 0)) a1 b1 ((w 743 0 0), (w 744 0 0), (w 742 0 0), (w 745 0 0), (w 746 0 0), (w 747 0 0))).1) ∧ u_ = ((wS (wS (wS (wS (wS (wS w 742 0 (fun _ => (tnT ((w 37 0), (w 661 0 0), (w 741 0 0)) a1 b1 ((w 743 0 0), (w 744 0 0), (w 742 0 0), (w 745 0 0), (w 746 0 0), (w 747 0 0))).2.2.2.1)) 743 0 (fun _ => (tnT ((w 37 0), (w 661 0 0), (w 741 0 0)) a1 b1 ((w 743 0 0), (w 744 0 0), (w 742 0 0), (w 745 0 0), (w 746 0 0), (w 747 0 0))).2.1)) 744 0 (fun _ => (tnT ((w 37 0), (w 661 0 0), (w 741 0 0)) a1 b1 ((w 743 0 0), (w 744 0 0), (w 742 0 0), (w 745 0 0), (w 746 0 0), (w 747 0 0))).2.2.1)) 745 0 (fun _ => (tnT ((w 37 0), (w 661 0 0), (w 741 0 0)) a1 b1 ((w 743 0 0), (w 744 0 0), (w 742 0 0), (w 745 0 0), (w 746 0 0), (w 747 0 0))).2.2.2.2.1)) 746 0 (fun _ => (tnT ((w 37 0), (w 661 0 0), (w 741 0 0)) a1 b1 ((w 743 0 0), (w 744 0 0), (w 742 0 0), (w 745 0 0), (w 746 0 0), (w 747 0 0))).2.2.2.2.2.1)) 747 0 (fun _ => (tnT ((w 37 0), (w 661 0 0), (w 741 0 0)) a1 b1 ((w 743 0 0), (w 744 0 0), (w 742 0 0), (w 745 0 0), (w 746 0 0), (w 747 0 0))).2.2.2.2.2.2)), z)
set_option maxHeartbeats 4000000 in
set_option maxRecDepth 100000 in
theorem c_X8_takeNumber (E : En) (hE : q_ok E) (w : Wi) (z : Wj) (a1 : Int32) (b1 : Int32) (h1 : okT ((w 37 0), (w 661 0 0), (w 741 0 0)) ((w 743 0 0), (w 744 0 0), (w 742 0 0), (w 745 0 0), (w 746 0 0), (w 747 0 0))) : CtI M_X8_takeNumber E [.ref (E.ad 8 0), .int a1, .int b1] w z (P_X8_takeNumber w z a1 b1) := by
  refine ctI_of (lv := [(0, .ref (E.ad 8 0)), (1, .int a1), (2, .int b1)]) hE m_X8_takeNumber (Nat.le_of_ble_eq_true rfl) rfl ?_
  intro K A C0
  have C : Cx K E A cX8_takeNumber 4 RX8 (some .int) { frames := 3, cells := 0, slots := 0, locals := 64 } := C0
  clear C0
  refine v_aload_n C 0 dX8_takeNumber_0 rfl ?_
  refine v_gI C 8 0 2 742 (w 742 0 0) (C_m C (u_8 0 (by decide))) k_8 (by decide) rfl rfl x_131 rfl dX8_takeNumber_1 ?_
  refine v_iconst (v := 2) C dX8_takeNumber_4 (by decide) ?_
  refine v_ic_eq C 16 dX8_takeNumber_5 (by decide) (fun c_5 => ?_) (fun c_5 => ?_)
  · refine v_aload_n C 0 dX8_takeNumber_16 rfl ?_
    refine v_gI C 8 0 5 745 (w 745 0 0) (C_m C (u_8 0 (by decide))) k_8 (by decide) rfl rfl x_134 rfl dX8_takeNumber_17 ?_
    refine v_iload_n C 1 dX8_takeNumber_20 rfl ?_
    refine v_ic_lt C 32 dX8_takeNumber_21 (by decide) (fun c_21 => ?_) (fun c_21 => ?_)
    · refine v_aload_n C 0 dX8_takeNumber_32 rfl ?_
      refine v_iconst (v := 2) C dX8_takeNumber_33 (by decide) ?_
      refine v_vI C 8 0 [.int 2] 1 (c_X8_refuse E hE _ _  2  ) m_X8_refuse x_668 x_660 x_661 p_X8_refuse rfl ⟨Nat.le_of_ble_eq_true rfl, Nat.le_of_ble_eq_true rfl⟩ (C_m C (u_8 0 (by decide))) k_8 rfl (Nat.le_of_ble_eq_true rfl) dX8_takeNumber_34 (fun r1 u1 v1 hp1 => ?_)
      obtain ⟨hr1, hu1⟩ := hp1
      subst hr1
      cases hu1
      refine v_pop C dX8_takeNumber_37 rfl ?_
      refine v_iconst (v := (-1)) C dX8_takeNumber_38 (by decide) ?_
      refine v_tS C 742 0 (by decide) ?_
      refine v_tS C 743 0 (by decide) ?_
      refine v_tS C 744 0 (by decide) ?_
      refine v_tS C 745 0 (by decide) ?_
      refine v_w (w2 := (wS (wS (wS (wS (wS (wS w 742 0 (fun _ => (w 742 0 0))) 743 0 (fun _ => (w 743 0 0))) 744 0 (fun _ => (w 744 0 0))) 745 0 (fun _ => (w 745 0 0))) 746 0 (fun _ => 2)) 747 0 (fun _ => (w 743 0 0)))) (by simp only [wS_s, wS_t, wS_a, ne_eq, Nat.reduceEqDiff, not_false_eq_true, wS_wS, wS_p, wS_pp, Nat.reduceLT, id_eq]) ?_
      exact v_iret C dX8_takeNumber_39 ⟨(by clear C; simp only [tnT]; (first | rw [if_pos (by clear h1; grind)] | rw [if_neg (by clear h1; grind), if_pos (by clear h1; grind)] | rw [if_neg (by clear h1; grind), if_neg (by clear h1; grind)]); first | done | rfl | (dsimp only; rw [rdT_fp])), (congr (congrArg Prod.mk (wS_eq (wS_eq (wS_eq (wS_eq (wS_eq (wS_eq rfl (fu_eq (by clear C; simp only [tnT]; (first | rw [if_pos (by clear h1; grind)] | rw [if_neg (by clear h1; grind), if_pos (by clear h1; grind)] | rw [if_neg (by clear h1; grind), if_neg (by clear h1; grind)]); first | done | rfl | (dsimp only; rw [rdT_fp])))) (fu_eq (by clear C; simp only [tnT]; (first | rw [if_pos (by clear h1; grind)] | rw [if_neg (by clear h1; grind), if_pos (by clear h1; grind)] | rw [if_neg (by clear h1; grind), if_neg (by clear h1; grind)]); first | done | rfl | (dsimp only; rw [rdT_fp])))) (fu_eq (by clear C; simp only [tnT]; (first | rw [if_pos (by clear h1; grind)] | rw [if_neg (by clear h1; grind), if_pos (by clear h1; grind)] | rw [if_neg (by clear h1; grind), if_neg (by clear h1; grind)]); first | done | rfl | (dsimp only; rw [rdT_fp])))) (fu_eq (by clear C; simp only [tnT]; (first | rw [if_pos (by clear h1; grind)] | rw [if_neg (by clear h1; grind), if_pos (by clear h1; grind)] | rw [if_neg (by clear h1; grind), if_neg (by clear h1; grind)]); first | done | rfl | (dsimp only; rw [rdT_fp])))) (fu_eq (by clear C; simp only [tnT]; (first | rw [if_pos (by clear h1; grind)] | rw [if_neg (by clear h1; grind), if_pos (by clear h1; grind)] | rw [if_neg (by clear h1; grind), if_neg (by clear h1; grind)]); first | done | rfl | (dsimp only; rw [rdT_fp])))) (fu_eq (by clear C; simp only [tnT]; (first | rw [if_pos (by clear h1; grind)] | rw [if_neg (by clear h1; grind), if_pos (by clear h1; grind)] | rw [if_neg (by clear h1; grind), if_neg (by clear h1; grind)]); first | done | rfl | (dsimp only; rw [rdT_fp]))))) rfl)⟩
    · refine v_aload_n C 0 dX8_takeNumber_24 rfl ?_
      refine v_gI C 8 0 5 745 (w 745 0 0) (C_m C (u_8 0 (by decide))) k_8 (by decide) rfl rfl x_134 rfl dX8_takeNumber_25 ?_
      refine v_iload_n C 2 dX8_takeNumber_28 rfl ?_
      refine v_ic_le C 40 dX8_takeNumber_29 (by decide) (fun c_29 => ?_) (fun c_29 => ?_)
      · refine v_aload_n C 0 dX8_takeNumber_40 rfl ?_
        refine v_gI C 8 0 5 745 (w 745 0 0) (C_m C (u_8 0 (by decide))) k_8 (by decide) rfl rfl x_134 rfl dX8_takeNumber_41 ?_
        refine v_istore_n (lv2 := [(3, .int (w 745 0 0)), (0, .ref (E.ad 8 0)), (1, .int a1), (2, .int b1)]) C dX8_takeNumber_44 rfl (by decide) rfl ?_
        refine v_aload_n C 1 dX8_takeNumber_45 rfl ?_
        refine v_vV C 8 0 [] 0 (c_X8_read E hE _ _    (by clear C; assumption)) m_X8_read x_579 x_580 x_581 p_X8_read rfl ⟨Nat.le_of_ble_eq_true rfl, Nat.le_of_ble_eq_true rfl⟩ (C_m C (u_8 0 (by decide))) k_8 rfl (Nat.le_of_ble_eq_true rfl) dX8_takeNumber_46 (fun u2 v2 hp2 => ?_)
        have hu2 := hp2
        cases hu2
        refine v_iload_n C 0 dX8_takeNumber_49 rfl ?_
        refine v_tS C 746 0 (by decide) ?_
        refine v_tS C 747 0 (by decide) ?_
        refine v_w (w2 := (wS (wS (wS (wS (wS (wS w 742 0 (fun _ => (rdT ((w 37 0), (w 661 0 0), (w 741 0 0)) ((w 743 0 0), (w 744 0 0), (w 742 0 0), (w 745 0 0), (w 746 0 0), (w 747 0 0))).2.2.1)) 743 0 (fun _ => (rdT ((w 37 0), (w 661 0 0), (w 741 0 0)) ((w 743 0 0), (w 744 0 0), (w 742 0 0), (w 745 0 0), (w 746 0 0), (w 747 0 0))).1)) 744 0 (fun _ => (rdT ((w 37 0), (w 661 0 0), (w 741 0 0)) ((w 743 0 0), (w 744 0 0), (w 742 0 0), (w 745 0 0), (w 746 0 0), (w 747 0 0))).2.1)) 745 0 (fun _ => (rdT ((w 37 0), (w 661 0 0), (w 741 0 0)) ((w 743 0 0), (w 744 0 0), (w 742 0 0), (w 745 0 0), (w 746 0 0), (w 747 0 0))).2.2.2.1)) 746 0 (fun _ => (w 746 0 0))) 747 0 (fun _ => (w 747 0 0)))) (by simp only [wS_s, wS_t, wS_a, ne_eq, Nat.reduceEqDiff, not_false_eq_true, wS_wS, wS_p, wS_pp, Nat.reduceLT, id_eq]) ?_
        exact v_iret C dX8_takeNumber_50 ⟨(by clear C; simp only [tnT]; (first | rw [if_pos (by clear h1; grind)] | rw [if_neg (by clear h1; grind), if_pos (by clear h1; grind)] | rw [if_neg (by clear h1; grind), if_neg (by clear h1; grind)]); first | done | rfl | (dsimp only; rw [rdT_fp])), (congr (congrArg Prod.mk (wS_eq (wS_eq (wS_eq (wS_eq (wS_eq (wS_eq rfl (fu_eq (by clear C; simp only [tnT]; (first | rw [if_pos (by clear h1; grind)] | rw [if_neg (by clear h1; grind), if_pos (by clear h1; grind)] | rw [if_neg (by clear h1; grind), if_neg (by clear h1; grind)]); first | done | rfl | (dsimp only; rw [rdT_fp])))) (fu_eq (by clear C; simp only [tnT]; (first | rw [if_pos (by clear h1; grind)] | rw [if_neg (by clear h1; grind), if_pos (by clear h1; grind)] | rw [if_neg (by clear h1; grind), if_neg (by clear h1; grind)]); first | done | rfl | (dsimp only; rw [rdT_fp])))) (fu_eq (by clear C; simp only [tnT]; (first | rw [if_pos (by clear h1; grind)] | rw [if_neg (by clear h1; grind), if_pos (by clear h1; grind)] | rw [if_neg (by clear h1; grind), if_neg (by clear h1; grind)]); first | done | rfl | (dsimp only; rw [rdT_fp])))) (fu_eq (by clear C; simp only [tnT]; (first | rw [if_pos (by clear h1; grind)] | rw [if_neg (by clear h1; grind), if_pos (by clear h1; grind)] | rw [if_neg (by clear h1; grind), if_neg (by clear h1; grind)]); first | done | rfl | (dsimp only; rw [rdT_fp])))) (fu_eq (by clear C; simp only [tnT]; (first | rw [if_pos (by clear h1; grind)] | rw [if_neg (by clear h1; grind), if_pos (by clear h1; grind)] | rw [if_neg (by clear h1; grind), if_neg (by clear h1; grind)]); first | done | rfl | (dsimp only; rw [rdT_fp])))) (fu_eq (by clear C; simp only [tnT]; (first | rw [if_pos (by clear h1; grind)] | rw [if_neg (by clear h1; grind), if_pos (by clear h1; grind)] | rw [if_neg (by clear h1; grind), if_neg (by clear h1; grind)]); first | done | rfl | (dsimp only; rw [rdT_fp]))))) rfl)⟩
      · refine v_aload_n C 0 dX8_takeNumber_32 rfl ?_
        refine v_iconst (v := 2) C dX8_takeNumber_33 (by decide) ?_
        refine v_vI C 8 0 [.int 2] 1 (c_X8_refuse E hE _ _  2  ) m_X8_refuse x_668 x_660 x_661 p_X8_refuse rfl ⟨Nat.le_of_ble_eq_true rfl, Nat.le_of_ble_eq_true rfl⟩ (C_m C (u_8 0 (by decide))) k_8 rfl (Nat.le_of_ble_eq_true rfl) dX8_takeNumber_34 (fun r3 u3 v3 hp3 => ?_)
        obtain ⟨hr3, hu3⟩ := hp3
        subst hr3
        cases hu3
        refine v_pop C dX8_takeNumber_37 rfl ?_
        refine v_iconst (v := (-1)) C dX8_takeNumber_38 (by decide) ?_
        refine v_tS C 742 0 (by decide) ?_
        refine v_tS C 743 0 (by decide) ?_
        refine v_tS C 744 0 (by decide) ?_
        refine v_tS C 745 0 (by decide) ?_
        refine v_w (w2 := (wS (wS (wS (wS (wS (wS w 742 0 (fun _ => (w 742 0 0))) 743 0 (fun _ => (w 743 0 0))) 744 0 (fun _ => (w 744 0 0))) 745 0 (fun _ => (w 745 0 0))) 746 0 (fun _ => 2)) 747 0 (fun _ => (w 743 0 0)))) (by simp only [wS_s, wS_t, wS_a, ne_eq, Nat.reduceEqDiff, not_false_eq_true, wS_wS, wS_p, wS_pp, Nat.reduceLT, id_eq]) ?_
        exact v_iret C dX8_takeNumber_39 ⟨(by clear C; simp only [tnT]; (first | rw [if_pos (by clear h1; grind)] | rw [if_neg (by clear h1; grind), if_pos (by clear h1; grind)] | rw [if_neg (by clear h1; grind), if_neg (by clear h1; grind)]); first | done | rfl | (dsimp only; rw [rdT_fp])), (congr (congrArg Prod.mk (wS_eq (wS_eq (wS_eq (wS_eq (wS_eq (wS_eq rfl (fu_eq (by clear C; simp only [tnT]; (first | rw [if_pos (by clear h1; grind)] | rw [if_neg (by clear h1; grind), if_pos (by clear h1; grind)] | rw [if_neg (by clear h1; grind), if_neg (by clear h1; grind)]); first | done | rfl | (dsimp only; rw [rdT_fp])))) (fu_eq (by clear C; simp only [tnT]; (first | rw [if_pos (by clear h1; grind)] | rw [if_neg (by clear h1; grind), if_pos (by clear h1; grind)] | rw [if_neg (by clear h1; grind), if_neg (by clear h1; grind)]); first | done | rfl | (dsimp only; rw [rdT_fp])))) (fu_eq (by clear C; simp only [tnT]; (first | rw [if_pos (by clear h1; grind)] | rw [if_neg (by clear h1; grind), if_pos (by clear h1; grind)] | rw [if_neg (by clear h1; grind), if_neg (by clear h1; grind)]); first | done | rfl | (dsimp only; rw [rdT_fp])))) (fu_eq (by clear C; simp only [tnT]; (first | rw [if_pos (by clear h1; grind)] | rw [if_neg (by clear h1; grind), if_pos (by clear h1; grind)] | rw [if_neg (by clear h1; grind), if_neg (by clear h1; grind)]); first | done | rfl | (dsimp only; rw [rdT_fp])))) (fu_eq (by clear C; simp only [tnT]; (first | rw [if_pos (by clear h1; grind)] | rw [if_neg (by clear h1; grind), if_pos (by clear h1; grind)] | rw [if_neg (by clear h1; grind), if_neg (by clear h1; grind)]); first | done | rfl | (dsimp only; rw [rdT_fp])))) (fu_eq (by clear C; simp only [tnT]; (first | rw [if_pos (by clear h1; grind)] | rw [if_neg (by clear h1; grind), if_pos (by clear h1; grind)] | rw [if_neg (by clear h1; grind), if_neg (by clear h1; grind)]); first | done | rfl | (dsimp only; rw [rdT_fp]))))) rfl)⟩
  · refine v_aload_n C 0 dX8_takeNumber_8 rfl ?_
    refine v_iconst (v := 1) C dX8_takeNumber_9 (by decide) ?_
    refine v_vI C 8 0 [.int 1] 1 (c_X8_refuse E hE _ _  1  ) m_X8_refuse x_668 x_660 x_661 p_X8_refuse rfl ⟨Nat.le_of_ble_eq_true rfl, Nat.le_of_ble_eq_true rfl⟩ (C_m C (u_8 0 (by decide))) k_8 rfl (Nat.le_of_ble_eq_true rfl) dX8_takeNumber_10 (fun r4 u4 v4 hp4 => ?_)
    obtain ⟨hr4, hu4⟩ := hp4
    subst hr4
    cases hu4
    refine v_pop C dX8_takeNumber_13 rfl ?_
    refine v_iconst (v := (-1)) C dX8_takeNumber_14 (by decide) ?_
    refine v_tS C 742 0 (by decide) ?_
    refine v_tS C 743 0 (by decide) ?_
    refine v_tS C 744 0 (by decide) ?_
    refine v_tS C 745 0 (by decide) ?_
    refine v_w (w2 := (wS (wS (wS (wS (wS (wS w 742 0 (fun _ => (w 742 0 0))) 743 0 (fun _ => (w 743 0 0))) 744 0 (fun _ => (w 744 0 0))) 745 0 (fun _ => (w 745 0 0))) 746 0 (fun _ => 1)) 747 0 (fun _ => (w 743 0 0)))) (by simp only [wS_s, wS_t, wS_a, ne_eq, Nat.reduceEqDiff, not_false_eq_true, wS_wS, wS_p, wS_pp, Nat.reduceLT, id_eq]) ?_
    exact v_iret C dX8_takeNumber_15 ⟨(by clear C; simp only [tnT]; (first | rw [if_pos (by clear h1; grind)] | rw [if_neg (by clear h1; grind), if_pos (by clear h1; grind)] | rw [if_neg (by clear h1; grind), if_neg (by clear h1; grind)]); first | done | rfl | (dsimp only; rw [rdT_fp])), (congr (congrArg Prod.mk (wS_eq (wS_eq (wS_eq (wS_eq (wS_eq (wS_eq rfl (fu_eq (by clear C; simp only [tnT]; (first | rw [if_pos (by clear h1; grind)] | rw [if_neg (by clear h1; grind), if_pos (by clear h1; grind)] | rw [if_neg (by clear h1; grind), if_neg (by clear h1; grind)]); first | done | rfl | (dsimp only; rw [rdT_fp])))) (fu_eq (by clear C; simp only [tnT]; (first | rw [if_pos (by clear h1; grind)] | rw [if_neg (by clear h1; grind), if_pos (by clear h1; grind)] | rw [if_neg (by clear h1; grind), if_neg (by clear h1; grind)]); first | done | rfl | (dsimp only; rw [rdT_fp])))) (fu_eq (by clear C; simp only [tnT]; (first | rw [if_pos (by clear h1; grind)] | rw [if_neg (by clear h1; grind), if_pos (by clear h1; grind)] | rw [if_neg (by clear h1; grind), if_neg (by clear h1; grind)]); first | done | rfl | (dsimp only; rw [rdT_fp])))) (fu_eq (by clear C; simp only [tnT]; (first | rw [if_pos (by clear h1; grind)] | rw [if_neg (by clear h1; grind), if_pos (by clear h1; grind)] | rw [if_neg (by clear h1; grind), if_neg (by clear h1; grind)]); first | done | rfl | (dsimp only; rw [rdT_fp])))) (fu_eq (by clear C; simp only [tnT]; (first | rw [if_pos (by clear h1; grind)] | rw [if_neg (by clear h1; grind), if_pos (by clear h1; grind)] | rw [if_neg (by clear h1; grind), if_neg (by clear h1; grind)]); first | done | rfl | (dsimp only; rw [rdT_fp])))) (fu_eq (by clear C; simp only [tnT]; (first | rw [if_pos (by clear h1; grind)] | rw [if_neg (by clear h1; grind), if_pos (by clear h1; grind)] | rw [if_neg (by clear h1; grind), if_neg (by clear h1; grind)]); first | done | rfl | (dsimp only; rw [rdT_fp]))))) rfl)⟩
abbrev P_X8_takeMark (w : Wi) (z : Wj) : Int32 → WW → Prop := fun r_ u_ => r_ = ((tmT ((w 37 0), (w 661 0 0), (w 741 0 0)) ((w 743 0 0), (w 744 0 0), (w 742 0 0), (w 745 0 0), (w 746 0 0), (w 747 0 0))).1) ∧ u_ = ((wS (wS (wS (wS (wS (wS w 742 0 (fun _ => (tmT ((w 37 0), (w 661 0 0), (w 741 0 0)) ((w 743 0 0), (w 744 0 0), (w 742 0 0), (w 745 0 0), (w 746 0 0), (w 747 0 0))).2.2.2.1)) 743 0 (fun _ => (tmT ((w 37 0), (w 661 0 0), (w 741 0 0)) ((w 743 0 0), (w 744 0 0), (w 742 0 0), (w 745 0 0), (w 746 0 0), (w 747 0 0))).2.1)) 744 0 (fun _ => (tmT ((w 37 0), (w 661 0 0), (w 741 0 0)) ((w 743 0 0), (w 744 0 0), (w 742 0 0), (w 745 0 0), (w 746 0 0), (w 747 0 0))).2.2.1)) 745 0 (fun _ => (tmT ((w 37 0), (w 661 0 0), (w 741 0 0)) ((w 743 0 0), (w 744 0 0), (w 742 0 0), (w 745 0 0), (w 746 0 0), (w 747 0 0))).2.2.2.2.1)) 746 0 (fun _ => (tmT ((w 37 0), (w 661 0 0), (w 741 0 0)) ((w 743 0 0), (w 744 0 0), (w 742 0 0), (w 745 0 0), (w 746 0 0), (w 747 0 0))).2.2.2.2.2.1)) 747 0 (fun _ => (tmT ((w 37 0), (w 661 0 0), (w 741 0 0)) ((w 743 0 0), (w 744 0 0), (w 742 0 0), (w 745 0 0), (w 746 0 0), (w 747 0 0))).2.2.2.2.2.2)), z)
set_option maxHeartbeats 4000000 in
set_option maxRecDepth 100000 in
theorem c_X8_takeMark (E : En) (hE : q_ok E) (w : Wi) (z : Wj) (h1 : okT ((w 37 0), (w 661 0 0), (w 741 0 0)) ((w 743 0 0), (w 744 0 0), (w 742 0 0), (w 745 0 0), (w 746 0 0), (w 747 0 0))) : CtI M_X8_takeMark E [.ref (E.ad 8 0)] w z (P_X8_takeMark w z) := by
  refine ctI_of (lv := [(0, .ref (E.ad 8 0))]) hE m_X8_takeMark (Nat.le_of_ble_eq_true rfl) rfl ?_
  intro K A C0
  have C : Cx K E A cX8_takeMark 1 RX8 (some .boolean) { frames := 3, cells := 0, slots := 0, locals := 64 } := C0
  clear C0
  refine v_aload_n C 0 dX8_takeMark_0 rfl ?_
  refine v_gI C 8 0 2 742 (w 742 0 0) (C_m C (u_8 0 (by decide))) k_8 (by decide) rfl rfl x_131 rfl dX8_takeMark_1 ?_
  refine v_iconst (v := 3) C dX8_takeMark_4 (by decide) ?_
  refine v_ic_eq C 14 dX8_takeMark_5 (by decide) (fun c_5 => ?_) (fun c_5 => ?_)
  · refine v_aload_n C 0 dX8_takeMark_14 rfl ?_
    refine v_vV C 8 0 [] 0 (c_X8_read E hE _ _    (by clear C; assumption)) m_X8_read x_579 x_580 x_581 p_X8_read rfl ⟨Nat.le_of_ble_eq_true rfl, Nat.le_of_ble_eq_true rfl⟩ (C_m C (u_8 0 (by decide))) k_8 rfl (Nat.le_of_ble_eq_true rfl) dX8_takeMark_15 (fun u1 v1 hp1 => ?_)
    have hu1 := hp1
    cases hu1
    refine v_iconst (v := 1) C dX8_takeMark_18 (by decide) ?_
    refine v_tS C 746 0 (by decide) ?_
    refine v_tS C 747 0 (by decide) ?_
    refine v_w (w2 := (wS (wS (wS (wS (wS (wS w 742 0 (fun _ => (rdT ((w 37 0), (w 661 0 0), (w 741 0 0)) ((w 743 0 0), (w 744 0 0), (w 742 0 0), (w 745 0 0), (w 746 0 0), (w 747 0 0))).2.2.1)) 743 0 (fun _ => (rdT ((w 37 0), (w 661 0 0), (w 741 0 0)) ((w 743 0 0), (w 744 0 0), (w 742 0 0), (w 745 0 0), (w 746 0 0), (w 747 0 0))).1)) 744 0 (fun _ => (rdT ((w 37 0), (w 661 0 0), (w 741 0 0)) ((w 743 0 0), (w 744 0 0), (w 742 0 0), (w 745 0 0), (w 746 0 0), (w 747 0 0))).2.1)) 745 0 (fun _ => (rdT ((w 37 0), (w 661 0 0), (w 741 0 0)) ((w 743 0 0), (w 744 0 0), (w 742 0 0), (w 745 0 0), (w 746 0 0), (w 747 0 0))).2.2.2.1)) 746 0 (fun _ => (w 746 0 0))) 747 0 (fun _ => (w 747 0 0)))) (by simp only [wS_s, wS_t, wS_a, ne_eq, Nat.reduceEqDiff, not_false_eq_true, wS_wS, wS_p, wS_pp, Nat.reduceLT, id_eq]) ?_
    exact v_zret C dX8_takeMark_19 (by decide) ⟨(by clear C; simp only [tmT]; rw [if_neg (not_not_intro (by assumption))]; first | done | rfl | (dsimp only; rw [rdT_fp])), (congr (congrArg Prod.mk (wS_eq (wS_eq (wS_eq (wS_eq (wS_eq (wS_eq rfl (fu_eq (by clear C; simp only [tmT]; rw [if_neg (not_not_intro (by assumption))]; first | done | rfl | (dsimp only; rw [rdT_fp])))) (fu_eq (by clear C; simp only [tmT]; rw [if_neg (not_not_intro (by assumption))]; first | done | rfl | (dsimp only; rw [rdT_fp])))) (fu_eq (by clear C; simp only [tmT]; rw [if_neg (not_not_intro (by assumption))]; first | done | rfl | (dsimp only; rw [rdT_fp])))) (fu_eq (by clear C; simp only [tmT]; rw [if_neg (not_not_intro (by assumption))]; first | done | rfl | (dsimp only; rw [rdT_fp])))) (fu_eq (by clear C; simp only [tmT]; rw [if_neg (not_not_intro (by assumption))]; first | done | rfl | (dsimp only; rw [rdT_fp])))) (fu_eq (by clear C; simp only [tmT]; rw [if_neg (not_not_intro (by assumption))]; first | done | rfl | (dsimp only; rw [rdT_fp]))))) rfl)⟩
  · refine v_aload_n C 0 dX8_takeMark_8 rfl ?_
    refine v_iconst (v := 1) C dX8_takeMark_9 (by decide) ?_
    refine v_vI C 8 0 [.int 1] 1 (c_X8_refuse E hE _ _  1  ) m_X8_refuse x_668 x_660 x_661 p_X8_refuse rfl ⟨Nat.le_of_ble_eq_true rfl, Nat.le_of_ble_eq_true rfl⟩ (C_m C (u_8 0 (by decide))) k_8 rfl (Nat.le_of_ble_eq_true rfl) dX8_takeMark_10 (fun r2 u2 v2 hp2 => ?_)
    obtain ⟨hr2, hu2⟩ := hp2
    subst hr2
    cases hu2
    refine v_tS C 742 0 (by decide) ?_
    refine v_tS C 743 0 (by decide) ?_
    refine v_tS C 744 0 (by decide) ?_
    refine v_tS C 745 0 (by decide) ?_
    refine v_w (w2 := (wS (wS (wS (wS (wS (wS w 742 0 (fun _ => (w 742 0 0))) 743 0 (fun _ => (w 743 0 0))) 744 0 (fun _ => (w 744 0 0))) 745 0 (fun _ => (w 745 0 0))) 746 0 (fun _ => 1)) 747 0 (fun _ => (w 743 0 0)))) (by simp only [wS_s, wS_t, wS_a, ne_eq, Nat.reduceEqDiff, not_false_eq_true, wS_wS, wS_p, wS_pp, Nat.reduceLT, id_eq]) ?_
    exact v_zret C dX8_takeMark_13 (by decide) ⟨(by clear C; simp only [tmT]; rw [if_pos (by assumption)]; first | done | rfl | (dsimp only; rw [rdT_fp])), (congr (congrArg Prod.mk (wS_eq (wS_eq (wS_eq (wS_eq (wS_eq (wS_eq rfl (fu_eq (by clear C; simp only [tmT]; rw [if_pos (by assumption)]; first | done | rfl | (dsimp only; rw [rdT_fp])))) (fu_eq (by clear C; simp only [tmT]; rw [if_pos (by assumption)]; first | done | rfl | (dsimp only; rw [rdT_fp])))) (fu_eq (by clear C; simp only [tmT]; rw [if_pos (by assumption)]; first | done | rfl | (dsimp only; rw [rdT_fp])))) (fu_eq (by clear C; simp only [tmT]; rw [if_pos (by assumption)]; first | done | rfl | (dsimp only; rw [rdT_fp])))) (fu_eq (by clear C; simp only [tmT]; rw [if_pos (by assumption)]; first | done | rfl | (dsimp only; rw [rdT_fp])))) (fu_eq (by clear C; simp only [tmT]; rw [if_pos (by assumption)]; first | done | rfl | (dsimp only; rw [rdT_fp]))))) rfl)⟩
abbrev P_X8_open (w : Wi) (z : Wj) (mo : Int32) : WW → Prop := fun u_ => u_ = ((wS (wS (wS (wS (wS (wS (wS w 741 0 (fun _ => (if (w 661 0 0) < mo then (w 661 0 0) else mo))) 742 0 (fun _ => (rdT ((w 37 0), (w 661 0 0), (if (w 661 0 0) < mo then (w 661 0 0) else mo)) ((w 743 0 0), 0, (w 742 0 0), (w 745 0 0), 0, 0)).2.2.1)) 743 0 (fun _ => (rdT ((w 37 0), (w 661 0 0), (if (w 661 0 0) < mo then (w 661 0 0) else mo)) ((w 743 0 0), 0, (w 742 0 0), (w 745 0 0), 0, 0)).1)) 744 0 (fun _ => (rdT ((w 37 0), (w 661 0 0), (if (w 661 0 0) < mo then (w 661 0 0) else mo)) ((w 743 0 0), 0, (w 742 0 0), (w 745 0 0), 0, 0)).2.1)) 745 0 (fun _ => (rdT ((w 37 0), (w 661 0 0), (if (w 661 0 0) < mo then (w 661 0 0) else mo)) ((w 743 0 0), 0, (w 742 0 0), (w 745 0 0), 0, 0)).2.2.2.1)) 746 0 (fun _ => 0)) 747 0 (fun _ => 0)), z)
set_option maxHeartbeats 4000000 in
set_option maxRecDepth 100000 in
theorem c_X8_open (E : En) (hE : q_ok E) (w : Wi) (z : Wj) (mo : Int32) (h1 : 0 ≤ (w 661 0 0)) (h2 : (w 661 0 0) ≤ 740) (h3 : 0 ≤ mo) : CtV M_X8_open E [.ref (E.ad 8 0), .int mo] w z (P_X8_open w z mo) := by
  refine ctV_of (lv := [(0, .ref (E.ad 8 0)), (1, .int mo)]) hE m_X8_open (Nat.le_of_ble_eq_true rfl) rfl ?_
  intro K A C0
  have C : Cx K E A cX8_open 2 RX8 none { frames := 3, cells := 0, slots := 0, locals := 64 } := C0
  clear C0
  refine v_aload_n C 0 dX8_open_0 rfl ?_
  refine v_iload_n C 1 dX8_open_1 rfl ?_
  refine v_aload_n C 0 dX8_open_2 rfl ?_
  refine v_gR C 8 0 0 7 0 (C_m C (u_8 0 (by decide))) k_8 (by decide) x_129 (fun _ _ _ => rfl) dX8_open_3 ?_
  refine v_gI C 7 0 1 661 (w 661 0 0) (C_m C (u_7 0 (by decide))) k_7 (by decide) rfl rfl x_115 rfl dX8_open_6 ?_
  refine v_mmin C x_576 x_577 x_85 x_578 ⟨by decide, Nat.le_of_ble_eq_true rfl⟩ dX8_open_9 ?_
  refine v_pI C 8 0 1 741 (C_m C (u_8 0 (by decide))) k_8 ty_8 (by decide) rfl ⟨rfl, rfl⟩ x_130 rfl rfl dX8_open_12 ?_
  refine v_aload_n C 0 dX8_open_15 rfl ?_
  refine v_iconst (v := 0) C dX8_open_16 (by decide) ?_
  refine v_pI C 8 0 4 744 (C_m C (u_8 0 (by decide))) k_8 ty_8 (by decide) rfl ⟨rfl, rfl⟩ x_133 rfl rfl dX8_open_17 ?_
  refine v_aload_n C 0 dX8_open_20 rfl ?_
  refine v_iconst (v := 0) C dX8_open_21 (by decide) ?_
  refine v_pI C 8 0 6 746 (C_m C (u_8 0 (by decide))) k_8 ty_8 (by decide) rfl ⟨rfl, rfl⟩ x_135 rfl rfl dX8_open_22 ?_
  refine v_aload_n C 0 dX8_open_25 rfl ?_
  refine v_iconst (v := 0) C dX8_open_26 (by decide) ?_
  refine v_pI C 8 0 7 747 (C_m C (u_8 0 (by decide))) k_8 ty_8 (by decide) rfl ⟨rfl, rfl⟩ x_137 rfl rfl dX8_open_27 ?_
  refine v_aload_n C 0 dX8_open_30 rfl ?_
  refine v_vV C 8 0 [] 0 (c_X8_read E hE _ _    (by clear C; (try simp only [wS_s, wS_t, wS_a, ne_eq, Nat.reduceEqDiff, not_false_eq_true]); exact ⟨Int32.le_refl _, h1, h2, by dsimp only; grind, by dsimp only; grind⟩)) m_X8_read x_579 x_580 x_581 p_X8_read rfl ⟨Nat.le_of_ble_eq_true rfl, Nat.le_of_ble_eq_true rfl⟩ (C_m C (u_8 0 (by decide))) k_8 rfl (Nat.le_of_ble_eq_true rfl) dX8_open_31 (fun u1 v1 hp1 => ?_)
  have hu1 := hp1
  cases hu1
  refine v_w (w2 := (wS (wS (wS (wS (wS (wS (wS w 741 0 (fun _ => (if (w 661 0 0) < mo then (w 661 0 0) else mo))) 742 0 (fun _ => (rdT ((w 37 0), (w 661 0 0), (if (w 661 0 0) < mo then (w 661 0 0) else mo)) ((w 743 0 0), 0, (w 742 0 0), (w 745 0 0), 0, 0)).2.2.1)) 743 0 (fun _ => (rdT ((w 37 0), (w 661 0 0), (if (w 661 0 0) < mo then (w 661 0 0) else mo)) ((w 743 0 0), 0, (w 742 0 0), (w 745 0 0), 0, 0)).1)) 744 0 (fun _ => (rdT ((w 37 0), (w 661 0 0), (if (w 661 0 0) < mo then (w 661 0 0) else mo)) ((w 743 0 0), 0, (w 742 0 0), (w 745 0 0), 0, 0)).2.1)) 745 0 (fun _ => (rdT ((w 37 0), (w 661 0 0), (if (w 661 0 0) < mo then (w 661 0 0) else mo)) ((w 743 0 0), 0, (w 742 0 0), (w 745 0 0), 0, 0)).2.2.2.1)) 746 0 (fun _ => 0)) 747 0 (fun _ => 0))) (by simp only [wS_s, wS_t, wS_a, ne_eq, Nat.reduceEqDiff, not_false_eq_true, wS_wS, wS_p, wS_pp, Nat.reduceLT, id_eq]) ?_
  exact v_vret C dX8_open_34 (congr (congrArg Prod.mk rfl) rfl)
abbrev P_X8_isWord (w : Wi) (z : Wj) (wi : Nat) (hwi : wi < 20) : Int32 → WW → Prop := fun r_ u_ => r_ = (wdT ((w 37 0), (w 661 0 0), (w 741 0 0)) ((w 743 0 0), (w 744 0 0), (w 742 0 0), (w 745 0 0), (w 746 0 0), (w 747 0 0)) (litS.getD wi [])) ∧ u_ = (w, z)
set_option maxHeartbeats 4000000 in
set_option maxRecDepth 100000 in
theorem c_X8_isWord (E : En) (hE : q_ok E) (w : Wi) (z : Wj) (wi : Nat) (hwi : wi < 20) (h1 : (w 661 0 0) ≤ 740) : CsI M_X8_isWord E [.ref (E.ad 8 0), .ref (E.ad 69 wi)] w z (P_X8_isWord w z wi hwi) := by
  refine csI_of (lv := [(0, .ref (E.ad 8 0)), (1, .ref (E.ad 69 wi))]) hE m_X8_isWord (Nat.le_of_ble_eq_true rfl) rfl ?_
  intro K A C0 SO
  have C : Cx K E A cX8_isWord 3 RX8 (some .boolean) { frames := 6, cells := 0, slots := 0, locals := 200 } := C0
  clear C0
  obtain ⟨hl1, hl2⟩ := lit_len wi hwi
  have hq : (0 : Int32) ≤ nI (lenS.getD wi 0) := nI_le (a := 0) (Nat.zero_le _) (by omega)
  have hq2 : nI (lenS.getD wi 0) ≤ 1000 := nI_le (b := 1000) (by omega) (by decide)
  refine v_aload_n C 0 dX8_isWord_0 rfl ?_
  refine v_gI C 8 0 2 742 (w 742 0 0) (C_m C (u_8 0 (by decide))) k_8 (by decide) rfl rfl x_131 rfl dX8_isWord_1 ?_
  refine v_iconst (v := 1) C dX8_isWord_4 (by decide) ?_
  refine v_ic_ne C 24 dX8_isWord_5 (by decide) (fun c_5 => ?_) (fun c_5 => ?_)
  · refine v_iconst (v := 0) C dX8_isWord_24 (by decide) ?_
    exact v_zret C dX8_isWord_25 (by decide) ⟨(by clear C SO; simp only [wdT]; rw [if_neg]; rw [hl1]; clear hl1; grind), (congr (congrArg Prod.mk rfl) rfl)⟩
  · refine v_aload_n C 0 dX8_isWord_8 rfl ?_
    refine v_gI C 8 0 4 744 (w 744 0 0) (C_m C (u_8 0 (by decide))) k_8 (by decide) rfl rfl x_133 rfl dX8_isWord_9 ?_
    refine v_aload_n C 0 dX8_isWord_12 rfl ?_
    refine v_gI C 8 0 3 743 (w 743 0 0) (C_m C (u_8 0 (by decide))) k_8 (by decide) rfl rfl x_132 rfl dX8_isWord_13 ?_
    refine v_isub C dX8_isWord_16 ?_
    refine v_aload_n C 1 dX8_isWord_17 rfl ?_
    refine v_vtI C SO wi [] 0 (c_J0_length_8abf5 E hE _ _ wi hwi) m_J0_length_8abf5 x_607 x_608 x_609 (by decide) rfl ⟨Nat.le_of_ble_eq_true rfl, Nat.le_of_ble_eq_true rfl⟩ hwi rfl rfl (Nat.le_of_ble_eq_true rfl) dX8_isWord_18 (fun r1 u1 v1 hp1 => ?_)
    obtain ⟨hr1, hu1⟩ := hp1
    subst hr1
    cases hu1
    refine v_ic_eq C 26 dX8_isWord_21 (by decide) (fun c_21 => ?_) (fun c_21 => ?_)
    · refine v_iconst (v := 0) C dX8_isWord_26 (by decide) ?_
      refine v_istore_n (lv2 := [(2, .int 0), (0, .ref (E.ad 8 0)), (1, .ref (E.ad 69 wi))]) C dX8_isWord_27 rfl (by decide) rfl ?_
      have hL28 : ∀ (n_ : Nat) (i : Int32), (2000 - i).toNatClampNeg < n_ → (0 ≤ i ∧ i ≤ nI (lenS.getD wi 0) ∧ ∀ k, k < i.toNatClampNeg → byF ((w 37 0), (w 661 0 0), (w 741 0 0)) ((w 743 0 0) + nI k) = (litS.getD wi []).getD k 0) → V K E A 3 (QI K E A (P_X8_isWord w z wi hwi)) 28 [(2, .int i), (0, .ref (E.ad 8 0)), (1, .ref (E.ad 69 wi))] [] w z := by
        intro n_
        induction n_ with
        | zero => intro i hm_; exact absurd hm_ (Nat.not_lt_zero _)
        | succ n_ ih_28 =>
          intro i hm_ hinv
          obtain ⟨g1, g2, g3⟩ := hinv
          refine v_iload_n C 0 dX8_isWord_28 rfl ?_
          refine v_aload_n C 2 dX8_isWord_29 rfl ?_
          refine v_vtI C SO wi [] 0 (c_J0_length_8abf5 E hE _ _ wi hwi) m_J0_length_8abf5 x_607 x_608 x_609 (by decide) rfl ⟨Nat.le_of_ble_eq_true rfl, Nat.le_of_ble_eq_true rfl⟩ hwi rfl rfl (Nat.le_of_ble_eq_true rfl) dX8_isWord_30 (fun r2 u2 v2 hp2 => ?_)
          obtain ⟨hr2, hu2⟩ := hp2
          subst hr2
          cases hu2
          refine v_ic_ge C 65 dX8_isWord_33 (by decide) (fun c_33 => ?_) (fun c_33 => ?_)
          · refine v_iconst (v := 1) C dX8_isWord_65 (by decide) ?_
            exact v_zret C dX8_isWord_66 (by decide) ⟨(by clear C SO ih_28; simp only [wdT]; rw [if_pos]; refine ⟨by clear g3; grind, by rw [hl1]; clear g3; grind, fun k hk => g3 k ?_⟩; rw [show i = nI (lenS.getD wi 0) by clear g3; grind, nI_clamp (by omega), ← hl1]; exact hk), (congr (congrArg Prod.mk rfl) rfl)⟩
          · refine v_aload_n C 1 dX8_isWord_36 rfl ?_
            refine v_gR C 8 0 0 7 0 (C_m C (u_8 0 (by decide))) k_8 (by decide) x_129 (fun _ _ _ => rfl) dX8_isWord_37 ?_
            refine v_aload_n C 1 dX8_isWord_40 rfl ?_
            refine v_gI C 8 0 3 743 (w 743 0 0) (C_m C (u_8 0 (by decide))) k_8 (by decide) rfl rfl x_132 rfl dX8_isWord_41 ?_
            refine v_iload_n C 0 dX8_isWord_44 rfl ?_
            refine v_iadd C dX8_isWord_45 ?_
            refine v_vI C 7 0 [.int ((w 743 0 0) + i)] 1 (c_X7_byteAt E hE _ _  ((w 743 0 0) + i)  (by clear C SO ih_28; assumption)) m_X7_byteAt x_583 x_584 x_585 p_X7_byteAt rfl ⟨Nat.le_of_ble_eq_true rfl, Nat.le_of_ble_eq_true rfl⟩ (C_m C (u_7 0 (by decide))) k_7 rfl (Nat.le_of_ble_eq_true rfl) dX8_isWord_46 (fun r3 u3 v3 hp3 => ?_)
            obtain ⟨hr3, hu3⟩ := hp3
            subst hr3
            cases hu3
            refine v_aload_n C 2 dX8_isWord_49 rfl ?_
            refine v_iload_n C 0 dX8_isWord_50 rfl ?_
            refine v_vtI C SO wi [.int i] 1 (c_J0_charAt_5068e E hE _ _ wi i hwi (by clear C SO ih_28; clear g3; grind) (by clear C SO ih_28; clear g3; grind)) m_J0_charAt_5068e x_617 x_618 x_619 (by decide) rfl ⟨Nat.le_of_ble_eq_true rfl, Nat.le_of_ble_eq_true rfl⟩ hwi rfl rfl (Nat.le_of_ble_eq_true rfl) dX8_isWord_51 (fun r4 u4 v4 hp4 => ?_)
            obtain ⟨hr4, hu4⟩ := hp4
            subst hr4
            cases hu4
            refine v_ic_eq C 59 dX8_isWord_54 (by decide) (fun c_54 => ?_) (fun c_54 => ?_)
            · refine v_iinc (v := i + 1) (lv2 := [(2, .int (i + 1)), (0, .ref (E.ad 8 0)), (1, .ref (E.ad 69 wi))]) C 0 dX8_isWord_59 rfl rfl (by decide) rfl ?_
              refine v_goto C 28 dX8_isWord_62 (by decide) ?_
              exact ih_28 (i + 1) (by clear C SO ih_28; exact Nat.lt_of_lt_of_le (m_up (by clear g3; grind) (by clear g3; grind)) (Nat.le_of_lt_succ hm_)) (by clear C SO ih_28; refine ⟨by clear g3; grind, by clear g3; grind, fun k hk => ?_⟩; rw [cl_succ g1 (by clear g3; grind)] at hk; by_cases q : k = i.toNatClampNeg; (subst q; rw [nI_cl g1]; simp only [byF]; assumption); exact g3 k (by omega))
            · refine v_iconst (v := 0) C dX8_isWord_57 (by decide) ?_
              exact v_zret C dX8_isWord_58 (by decide) ⟨(by clear C SO ih_28; simp only [wdT]; rw [if_neg]; intro q; have q3 := q.2.2 i.toNatClampNeg (by rw [hl1]; have := (cl_lt g1 hq).mpr (by clear g3 q; grind); rwa [nI_clamp (by omega)] at this); rw [nI_cl g1] at q3; simp only [byF] at q3; exact absurd q3 (by assumption)), (congr (congrArg Prod.mk rfl) rfl)⟩
      exact hL28 _ 0 (Nat.lt_succ_self _) (by clear C SO hL28; exact ⟨by decide, hq, fun k hk => absurd hk (Nat.not_lt_zero _)⟩)
    · refine v_iconst (v := 0) C dX8_isWord_24 (by decide) ?_
      exact v_zret C dX8_isWord_25 (by decide) ⟨(by clear C SO; simp only [wdT]; rw [if_neg]; rw [hl1]; clear hl1; grind), (congr (congrArg Prod.mk rfl) rfl)⟩
