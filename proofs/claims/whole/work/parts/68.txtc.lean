abbrev P_X9_readOptions (w : Wi) (z : Wj) : Int32 → WW → Prop := fun r_ u_ => r_ = ((roT ((w 37 0), (w 661 0 0), (w 741 0 0)) 6 0 ((w 743 0 0), (w 744 0 0), (w 742 0 0), (w 745 0 0), (w 746 0 0), (w 747 0 0)) ((w 500 1 0), (w 30 1), (w 31 1), (w 32 1), (w 33 1), (w 34 1), (w 35 1), (w 36 1))).1) ∧ u_ = ((wS (wS (wS (wS (wS (wS (wS (wS (wS (wS (wS w 32 1 ((roT ((w 37 0), (w 661 0 0), (w 741 0 0)) 6 0 ((w 743 0 0), (w 744 0 0), (w 742 0 0), (w 745 0 0), (w 746 0 0), (w 747 0 0)) ((w 500 1 0), (w 30 1), (w 31 1), (w 32 1), (w 33 1), (w 34 1), (w 35 1), (w 36 1))).2.2.2.2.2.1)) 33 1 ((roT ((w 37 0), (w 661 0 0), (w 741 0 0)) 6 0 ((w 743 0 0), (w 744 0 0), (w 742 0 0), (w 745 0 0), (w 746 0 0), (w 747 0 0)) ((w 500 1 0), (w 30 1), (w 31 1), (w 32 1), (w 33 1), (w 34 1), (w 35 1), (w 36 1))).2.2.2.2.2.2.1)) 34 1 ((roT ((w 37 0), (w 661 0 0), (w 741 0 0)) 6 0 ((w 743 0 0), (w 744 0 0), (w 742 0 0), (w 745 0 0), (w 746 0 0), (w 747 0 0)) ((w 500 1 0), (w 30 1), (w 31 1), (w 32 1), (w 33 1), (w 34 1), (w 35 1), (w 36 1))).2.2.2.2.2.2.2.1)) 35 1 ((roT ((w 37 0), (w 661 0 0), (w 741 0 0)) 6 0 ((w 743 0 0), (w 744 0 0), (w 742 0 0), (w 745 0 0), (w 746 0 0), (w 747 0 0)) ((w 500 1 0), (w 30 1), (w 31 1), (w 32 1), (w 33 1), (w 34 1), (w 35 1), (w 36 1))).2.2.2.2.2.2.2.2.1)) 36 1 ((roT ((w 37 0), (w 661 0 0), (w 741 0 0)) 6 0 ((w 743 0 0), (w 744 0 0), (w 742 0 0), (w 745 0 0), (w 746 0 0), (w 747 0 0)) ((w 500 1 0), (w 30 1), (w 31 1), (w 32 1), (w 33 1), (w 34 1), (w 35 1), (w 36 1))).2.2.2.2.2.2.2.2.2)) 742 0 (fun _ => (roT ((w 37 0), (w 661 0 0), (w 741 0 0)) 6 0 ((w 743 0 0), (w 744 0 0), (w 742 0 0), (w 745 0 0), (w 746 0 0), (w 747 0 0)) ((w 500 1 0), (w 30 1), (w 31 1), (w 32 1), (w 33 1), (w 34 1), (w 35 1), (w 36 1))).2.1.2.2.1)) 743 0 (fun _ => (roT ((w 37 0), (w 661 0 0), (w 741 0 0)) 6 0 ((w 743 0 0), (w 744 0 0), (w 742 0 0), (w 745 0 0), (w 746 0 0), (w 747 0 0)) ((w 500 1 0), (w 30 1), (w 31 1), (w 32 1), (w 33 1), (w 34 1), (w 35 1), (w 36 1))).2.1.1)) 744 0 (fun _ => (roT ((w 37 0), (w 661 0 0), (w 741 0 0)) 6 0 ((w 743 0 0), (w 744 0 0), (w 742 0 0), (w 745 0 0), (w 746 0 0), (w 747 0 0)) ((w 500 1 0), (w 30 1), (w 31 1), (w 32 1), (w 33 1), (w 34 1), (w 35 1), (w 36 1))).2.1.2.1)) 745 0 (fun _ => (roT ((w 37 0), (w 661 0 0), (w 741 0 0)) 6 0 ((w 743 0 0), (w 744 0 0), (w 742 0 0), (w 745 0 0), (w 746 0 0), (w 747 0 0)) ((w 500 1 0), (w 30 1), (w 31 1), (w 32 1), (w 33 1), (w 34 1), (w 35 1), (w 36 1))).2.1.2.2.2.1)) 746 0 (fun _ => (roT ((w 37 0), (w 661 0 0), (w 741 0 0)) 6 0 ((w 743 0 0), (w 744 0 0), (w 742 0 0), (w 745 0 0), (w 746 0 0), (w 747 0 0)) ((w 500 1 0), (w 30 1), (w 31 1), (w 32 1), (w 33 1), (w 34 1), (w 35 1), (w 36 1))).2.1.2.2.2.2.1)) 747 0 (fun _ => (roT ((w 37 0), (w 661 0 0), (w 741 0 0)) 6 0 ((w 743 0 0), (w 744 0 0), (w 742 0 0), (w 745 0 0), (w 746 0 0), (w 747 0 0)) ((w 500 1 0), (w 30 1), (w 31 1), (w 32 1), (w 33 1), (w 34 1), (w 35 1), (w 36 1))).2.1.2.2.2.2.2)), z)
set_option maxHeartbeats 4000000 in
set_option maxRecDepth 100000 in
theorem c_X9_readOptions (E : En) (hE : q_ok E) (w : Wi) (z : Wj) (h1 : okT ((w 37 0), (w 661 0 0), (w 741 0 0)) ((w 743 0 0), (w 744 0 0), (w 742 0 0), (w 745 0 0), (w 746 0 0), (w 747 0 0))) (h2 : 0 ≤ (w 500 1 0)) (h3 : (w 500 1 0) ≤ 16) : CsI M_X9_readOptions E [.ref (E.ad 9 0)] w z (P_X9_readOptions w z) := by
  refine csI_of (lv := [(0, .ref (E.ad 9 0))]) hE m_X9_readOptions (Nat.le_of_ble_eq_true rfl) rfl ?_
  intro K A C0 SO
  have C : Cx K E A cX9_readOptions 5 RX9 (some .boolean) { frames := 8, cells := 0, slots := 0, locals := 243 } := C0
  clear C0
  obtain ⟨Hv, hH⟩ : ∃ Hv : Int32 × TS × DT, Hv = (roT ((w 37 0), (w 661 0 0), (w 741 0 0)) 6 0 ((w 743 0 0), (w 744 0 0), (w 742 0 0), (w 745 0 0), (w 746 0 0), (w 747 0 0)) ((w 500 1 0), (w 30 1), (w 31 1), (w 32 1), (w 33 1), (w 34 1), (w 35 1), (w 36 1))) := ⟨_, rfl⟩
  refine v_iconst (v := 0) C dX9_readOptions_0 (by decide) ?_
  refine v_istore_n (lv2 := [(1, .int 0), (0, .ref (E.ad 9 0))]) C dX9_readOptions_1 rfl (by decide) rfl ?_
  refine v_iconst (v := 0) C dX9_readOptions_2 (by decide) ?_
  refine v_istore_n (lv2 := [(2, .int 0), (1, .int 0), (0, .ref (E.ad 9 0))]) C dX9_readOptions_3 rfl (by decide) rfl ?_
  have hL4 : ∀ (n_ : Nat) (told : Int32) (i : Int32) (a1 : Int32) (a2 : Int32) (a3 : Int32) (a4 : Int32) (a5 : Int32) (a6 : Int32) (rout : Row) (rkeep : Row) (rleak : Row) (rhose : Row) (rstuck : Row), (6 - i).toNatClampNeg < n_ → (0 ≤ i ∧ i ≤ 6 ∧ okT ((w 37 0), (w 661 0 0), (w 741 0 0)) (a1, a2, a3, a4, a5, a6) ∧ roT ((w 37 0), (w 661 0 0), (w 741 0 0)) (6 - i).toNatClampNeg told (a1, a2, a3, a4, a5, a6) ((w 500 1 0), (w 30 1), (w 31 1), rout, rkeep, rleak, rhose, rstuck) = Hv) → V K E A 5 (QI K E A (P_X9_readOptions w z)) 4 [(2, .int i), (1, .int told), (0, .ref (E.ad 9 0))] [] (wS (wS (wS (wS (wS (wS (wS (wS (wS (wS (wS w 32 1 rout) 33 1 rkeep) 34 1 rleak) 35 1 rhose) 36 1 rstuck) 742 0 (fun _ => a3)) 743 0 (fun _ => a1)) 744 0 (fun _ => a2)) 745 0 (fun _ => a4)) 746 0 (fun _ => a5)) 747 0 (fun _ => a6)) z := by
    intro n_
    induction n_ with
    | zero => intro told i a1 a2 a3 a4 a5 a6 rout rkeep rleak rhose rstuck hm_; exact absurd hm_ (Nat.not_lt_zero _)
    | succ n_ ih_4 =>
      intro told i a1 a2 a3 a4 a5 a6 rout rkeep rleak rhose rstuck hm_ hinv
      obtain ⟨g1, g2, okA, g3⟩ := hinv
      refine v_iload_n C 0 dX9_readOptions_4 rfl ?_
      refine v_iconst (v := 5) C dX9_readOptions_5 (by decide) ?_
      refine v_ic_gt C 119 dX9_readOptions_6 (by decide) (fun c_6 => ?_) (fun c_6 => ?_)
      · refine v_aload_n C 2 dX9_readOptions_119 rfl ?_
        refine v_gR C 9 0 0 8 0 (C_m C (u_9 0 (by decide))) k_9 (by decide) x_217 (fun _ _ _ => rfl) dX9_readOptions_120 ?_
        refine v_iconst (v := 3) C dX9_readOptions_123 (by decide) ?_
        refine v_vI C 8 0 [.int 3] 1 (c_X8_refuse E hE _ _  3  ) m_X8_refuse x_659 x_660 x_661 p_X8_refuse rfl ⟨Nat.le_of_ble_eq_true rfl, Nat.le_of_ble_eq_true rfl⟩ (C_m C (u_8 0 (by decide))) k_8 rfl (Nat.le_of_ble_eq_true rfl) dX9_readOptions_124 (fun r1 u1 v1 hp1 => ?_)
        obtain ⟨hr1, hu1⟩ := hp1
        subst hr1
        cases hu1
        refine v_w (w2 := (wS (wS (wS (wS (wS (wS (wS (wS (wS (wS (wS w 32 1 rout) 33 1 rkeep) 34 1 rleak) 35 1 rhose) 36 1 rstuck) 742 0 (fun _ => a3)) 743 0 (fun _ => a1)) 744 0 (fun _ => a2)) 745 0 (fun _ => a4)) 746 0 (fun _ => 3)) 747 0 (fun _ => a1))) (by simp only [wS_s, wS_t, wS_a, ne_eq, Nat.reduceEqDiff, not_false_eq_true, wS_wS, wS_p, wS_pp, Nat.reduceLT, id_eq]) ?_
        have hX : Hv = (0, rfT 3 (a1, a2, a3, a4, a5, a6), ((w 500 1 0), (w 30 1), (w 31 1), rout, rkeep, rleak, rhose, rstuck)) := by rw [← g3, show i = 6 by clear g3; grind]; rfl
        rw [hH] at hX
        exact v_zret C dX9_readOptions_127 (by decide) ⟨(by clear C SO ih_4; rw [hX]; first | done | rfl), (congr (congrArg Prod.mk (wS_eq (wS_eq (wS_eq (wS_eq (wS_eq (wS_eq (wS_eq (wS_eq (wS_eq (wS_eq (wS_eq rfl (by clear C SO ih_4; rw [hX]; first | done | rfl)) (by clear C SO ih_4; rw [hX]; first | done | rfl)) (by clear C SO ih_4; rw [hX]; first | done | rfl)) (by clear C SO ih_4; rw [hX]; first | done | rfl)) (by clear C SO ih_4; rw [hX]; first | done | rfl)) (fu_eq (by clear C SO ih_4; rw [hX]; first | done | rfl))) (fu_eq (by clear C SO ih_4; rw [hX]; first | done | rfl))) (fu_eq (by clear C SO ih_4; rw [hX]; first | done | rfl))) (fu_eq (by clear C SO ih_4; rw [hX]; first | done | rfl))) (fu_eq (by clear C SO ih_4; rw [hX]; first | done | rfl))) (fu_eq (by clear C SO ih_4; rw [hX]; first | done | rfl)))) rfl)⟩
      · refine v_aload_n C 2 dX9_readOptions_9 rfl ?_
        refine v_vsI C SO 9 0 [] 0 (c_X9_optionHere E hE _ _    (by clear C SO ih_4; (try simp only [wS_s, wS_t, wS_a, ne_eq, Nat.reduceEqDiff, not_false_eq_true]); exact okA)) m_X9_optionHere x_687 x_689 x_6 p_X9_optionHere rfl ⟨Nat.le_of_ble_eq_true rfl, Nat.le_of_ble_eq_true rfl⟩ (C_m C (u_9 0 (by decide))) k_9 rfl (Nat.le_of_ble_eq_true rfl) dX9_readOptions_10 (fun r2 u2 v2 hp2 => ?_)
        obtain ⟨hr2, hu2⟩ := hp2
        subst hr2
        cases hu2
        refine v_i (y := opT ((w 37 0), (w 661 0 0), (w 741 0 0)) (a1, a2, a3, a4, a5, a6)) (by simp only [wS_s, wS_t, wS_a, ne_eq, Nat.reduceEqDiff, not_false_eq_true]) ?_
        refine v_istore_n (lv2 := [(3, .int (opT ((w 37 0), (w 661 0 0), (w 741 0 0)) (a1, a2, a3, a4, a5, a6))), (2, .int i), (1, .int told), (0, .ref (E.ad 9 0))]) C dX9_readOptions_13 rfl (by decide) rfl ?_
        have hL14 : ∀ (wt : Int32), (wt = opT ((w 37 0), (w 661 0 0), (w 741 0 0)) (a1, a2, a3, a4, a5, a6)) → V K E A 5 (QI K E A (P_X9_readOptions w z)) 14 [(3, .int wt), (2, .int i), (1, .int told), (0, .ref (E.ad 9 0))] [] (wS (wS (wS (wS (wS (wS (wS (wS (wS (wS (wS w 32 1 rout) 33 1 rkeep) 34 1 rleak) 35 1 rhose) 36 1 rstuck) 742 0 (fun _ => a3)) 743 0 (fun _ => a1)) 744 0 (fun _ => a2)) 745 0 (fun _ => a4)) 746 0 (fun _ => a5)) 747 0 (fun _ => a6)) z := by
          intro wt hinv
          have ew := hinv
          refine v_iload_n C 0 dX9_readOptions_14 rfl ?_
          refine v_iconst (v := (-1)) C dX9_readOptions_15 (by decide) ?_
          refine v_ic_ne C 21 dX9_readOptions_16 (by decide) (fun c_16 => ?_) (fun c_16 => ?_)
          · refine v_iload_n C 2 dX9_readOptions_21 rfl ?_
            refine v_iload_n C 0 dX9_readOptions_22 rfl ?_
            refine v_ishr C dX9_readOptions_23 ?_
            refine v_iconst (v := 1) C dX9_readOptions_24 (by decide) ?_
            refine v_iand C dX9_readOptions_25 ?_
            refine v_iconst (v := 1) C dX9_readOptions_26 (by decide) ?_
            refine v_ic_ne C 39 dX9_readOptions_27 (by decide) (fun c_27 => ?_) (fun c_27 => ?_)
            · refine v_iload_n C 2 dX9_readOptions_39 rfl ?_
              refine v_iconst (v := 1) C dX9_readOptions_40 (by decide) ?_
              refine v_iload_n C 0 dX9_readOptions_41 rfl ?_
              refine v_ishl C dX9_readOptions_42 ?_
              refine v_ior C dX9_readOptions_43 ?_
              refine v_istore_n (lv2 := [(1, .int (told ||| (1 <<< (wt &&& 31)))), (3, .int wt), (2, .int i), (0, .ref (E.ad 9 0))]) C dX9_readOptions_44 rfl (by decide) rfl ?_
              refine v_aload_n C 3 dX9_readOptions_45 rfl ?_
              refine v_gR C 9 0 0 8 0 (C_m C (u_9 0 (by decide))) k_9 (by decide) x_217 (fun _ _ _ => rfl) dX9_readOptions_46 ?_
              refine v_vV C 8 0 [] 0 (c_X8_read E hE _ _    (by clear C SO ih_4; (try simp only [wS_s, wS_t, wS_a, ne_eq, Nat.reduceEqDiff, not_false_eq_true]); exact okA)) m_X8_read x_663 x_580 x_581 p_X8_read rfl ⟨Nat.le_of_ble_eq_true rfl, Nat.le_of_ble_eq_true rfl⟩ (C_m C (u_8 0 (by decide))) k_8 rfl (Nat.le_of_ble_eq_true rfl) dX9_readOptions_49 (fun u3 v3 hp3 => ?_)
              have hu3 := hp3
              cases hu3
              refine v_w (w2 := (wS (wS (wS (wS (wS (wS (wS (wS (wS (wS (wS w 32 1 rout) 33 1 rkeep) 34 1 rleak) 35 1 rhose) 36 1 rstuck) 742 0 (fun _ => (rdT ((w 37 0), (w 661 0 0), (w 741 0 0)) (a1, a2, a3, a4, a5, a6)).2.2.1)) 743 0 (fun _ => (rdT ((w 37 0), (w 661 0 0), (w 741 0 0)) (a1, a2, a3, a4, a5, a6)).1)) 744 0 (fun _ => (rdT ((w 37 0), (w 661 0 0), (w 741 0 0)) (a1, a2, a3, a4, a5, a6)).2.1)) 745 0 (fun _ => (rdT ((w 37 0), (w 661 0 0), (w 741 0 0)) (a1, a2, a3, a4, a5, a6)).2.2.2.1)) 746 0 (fun _ => a5)) 747 0 (fun _ => a6))) (by simp only [wS_s, wS_t, wS_a, ne_eq, Nat.reduceEqDiff, not_false_eq_true, wS_wS, wS_p, wS_pp, Nat.reduceLT, id_eq]) ?_
              have hL52 : ∀ (b1 : Int32) (b2 : Int32) (b3 : Int32) (b4 : Int32) (b5 : Int32) (b6 : Int32), ((b1, b2, b3, b4, b5, b6) = rdT ((w 37 0), (w 661 0 0), (w 741 0 0)) (a1, a2, a3, a4, a5, a6)) → V K E A 5 (QI K E A (P_X9_readOptions w z)) 52 [(1, .int (told ||| (1 <<< (wt &&& 31)))), (3, .int wt), (2, .int i), (0, .ref (E.ad 9 0))] [] (wS (wS (wS (wS (wS (wS (wS (wS (wS (wS (wS w 32 1 rout) 33 1 rkeep) 34 1 rleak) 35 1 rhose) 36 1 rstuck) 742 0 (fun _ => b3)) 743 0 (fun _ => b1)) 744 0 (fun _ => b2)) 745 0 (fun _ => b4)) 746 0 (fun _ => b5)) 747 0 (fun _ => b6)) z := by
                intro b1 b2 b3 b4 b5 b6 hinv
                have hB := hinv
                have hL86 : ∀ (v : Int32) (c1 : Int32) (c2 : Int32) (c3 : Int32) (c4 : Int32) (c5 : Int32) (c6 : Int32), ((v, c1, c2, c3, c4, c5, c6) = roV ((w 37 0), (w 661 0 0), (w 741 0 0)) wt (b1, b2, b3, b4, b5, b6)) → V K E A 5 (QI K E A (P_X9_readOptions w z)) 86 [(1, .int (told ||| (1 <<< (wt &&& 31)))), (3, .int wt), (2, .int i), (0, .ref (E.ad 9 0))] [.int v] (wS (wS (wS (wS (wS (wS (wS (wS (wS (wS (wS w 32 1 rout) 33 1 rkeep) 34 1 rleak) 35 1 rhose) 36 1 rstuck) 742 0 (fun _ => c3)) 743 0 (fun _ => c1)) 744 0 (fun _ => c2)) 745 0 (fun _ => c4)) 746 0 (fun _ => c5)) 747 0 (fun _ => c6)) z := by
                  intro v c1 c2 c3 c4 c5 c6 hinv
                  have hC := hinv
                  refine v_istore (lv2 := [(4, .int v), (1, .int (told ||| (1 <<< (wt &&& 31)))), (3, .int wt), (2, .int i), (0, .ref (E.ad 9 0))]) C dX9_readOptions_86 (by decide) rfl ?_
                  refine v_iload C 0 dX9_readOptions_88 rfl ?_
                  refine v_iconst (v := (-1)) C dX9_readOptions_90 (by decide) ?_
                  refine v_ic_ne C 96 dX9_readOptions_91 (by decide) (fun c_91 => ?_) (fun c_91 => ?_)
                  · refine v_aload_n C 4 dX9_readOptions_96 rfl ?_
                    refine v_gR C 9 0 1 5 1 (C_m C (u_9 0 (by decide))) k_9 (by decide) x_218 (fun _ _ _ => rfl) dX9_readOptions_97 ?_
                    refine v_aload_n C 4 dX9_readOptions_100 rfl ?_
                    refine v_gR C 9 0 1 5 1 (C_m C (u_9 0 (by decide))) k_9 (by decide) x_218 (fun _ _ _ => rfl) dX9_readOptions_101 ?_
                    refine v_gI C 5 1 0 500 (w 500 1 0) (C_m C (u_5 1 (by decide))) k_5 (by decide) rfl rfl x_169 (by simp only [wS_s, wS_t, wS_a, ne_eq, Nat.reduceEqDiff, not_false_eq_true]) dX9_readOptions_104 ?_
                    refine v_iload_n C 2 dX9_readOptions_107 rfl ?_
                    refine v_iload C 0 dX9_readOptions_108 rfl ?_
                    refine v_vV C 5 1 [.int (w 500 1 0), .int wt, .int v] 3 (c_X5_setFact E hE _ _ 1 (by decide) (w 500 1 0) wt v  (by clear C SO ih_4; (try simp only [wS_s, wS_t, wS_a, ne_eq, Nat.reduceEqDiff, not_false_eq_true]); assumption)) m_X5_setFact x_705 x_706 x_707 p_X5_setFact rfl ⟨Nat.le_of_ble_eq_true rfl, Nat.le_of_ble_eq_true rfl⟩ (C_m C (u_5 1 (by decide))) k_5 rfl (Nat.le_of_ble_eq_true rfl) dX9_readOptions_110 (fun u4 v4 hp4 => ?_)
                    have hu4 := hp4
                    cases hu4
                    refine v_w (w2 := (wS (wS (wS (wS (wS (wS (wS (wS (wS (wS (wS w 32 1 (if (1 ≤ (w 500 1 0) ∧ (w 500 1 0) ≤ (w 500 1 0)) ∧ wt = 2 then upd rout ((w 500 1 0)).toNatClampNeg v else rout)) 33 1 (if (1 ≤ (w 500 1 0) ∧ (w 500 1 0) ≤ (w 500 1 0)) ∧ wt = 3 then upd rkeep ((w 500 1 0)).toNatClampNeg v else rkeep)) 34 1 (if (1 ≤ (w 500 1 0) ∧ (w 500 1 0) ≤ (w 500 1 0)) ∧ wt = 4 then upd rleak ((w 500 1 0)).toNatClampNeg v else rleak)) 35 1 (if (1 ≤ (w 500 1 0) ∧ (w 500 1 0) ≤ (w 500 1 0)) ∧ wt = 5 then upd rhose ((w 500 1 0)).toNatClampNeg v else rhose)) 36 1 (if (1 ≤ (w 500 1 0) ∧ (w 500 1 0) ≤ (w 500 1 0)) ∧ wt = 6 then upd rstuck ((w 500 1 0)).toNatClampNeg v else rstuck)) 742 0 (fun _ => c3)) 743 0 (fun _ => c1)) 744 0 (fun _ => c2)) 745 0 (fun _ => c4)) 746 0 (fun _ => c5)) 747 0 (fun _ => c6))) (by simp only [wS_s, wS_t, wS_a, ne_eq, Nat.reduceEqDiff, not_false_eq_true, wS_wS, wS_p, wS_pp, Nat.reduceLT, id_eq]) ?_
                    refine v_iinc (v := i + 1) (lv2 := [(2, .int (i + 1)), (4, .int v), (1, .int (told ||| (1 <<< (wt &&& 31)))), (3, .int wt), (0, .ref (E.ad 9 0))]) C 3 dX9_readOptions_113 rfl rfl (by decide) rfl ?_
                    refine v_goto C 4 dX9_readOptions_116 (by decide) ?_
                    refine v_l [0, 2, 4] rfl ?_
                    exact ih_4 (told ||| (1 <<< (wt &&& 31))) (i + 1) c1 c2 c3 c4 c5 c6 (if (1 ≤ (w 500 1 0) ∧ (w 500 1 0) ≤ (w 500 1 0)) ∧ wt = 2 then upd rout ((w 500 1 0)).toNatClampNeg v else rout) (if (1 ≤ (w 500 1 0) ∧ (w 500 1 0) ≤ (w 500 1 0)) ∧ wt = 3 then upd rkeep ((w 500 1 0)).toNatClampNeg v else rkeep) (if (1 ≤ (w 500 1 0) ∧ (w 500 1 0) ≤ (w 500 1 0)) ∧ wt = 4 then upd rleak ((w 500 1 0)).toNatClampNeg v else rleak) (if (1 ≤ (w 500 1 0) ∧ (w 500 1 0) ≤ (w 500 1 0)) ∧ wt = 5 then upd rhose ((w 500 1 0)).toNatClampNeg v else rhose) (if (1 ≤ (w 500 1 0) ∧ (w 500 1 0) ≤ (w 500 1 0)) ∧ wt = 6 then upd rstuck ((w 500 1 0)).toNatClampNeg v else rstuck) (by clear C SO ih_4; exact Nat.lt_of_lt_of_le (m_up (by clear g3; grind) (by clear g3; grind)) (Nat.le_of_lt_succ hm_)) (by clear C SO ih_4; refine ⟨by clear g3 hB hC ew; grind, by clear g3 hB hC ew; grind, ?_, ?_⟩; (have q := okT_rv (x := wt) (okT_rd okA); rw [← hB, ← hC] at q; exact q); rw [← g3, m_dnn g1 (by clear g3 hB hC ew; grind)]; simp only [roT]; rw [← ew, if_neg (show ¬ wt = (-1) by assumption), if_neg (show ¬ (told >>> (wt &&& 31)) &&& 1 = 1 by assumption), ← hB, ← hC, if_neg (show ¬ v = (-1) by assumption)]; rfl)
                  · refine v_iconst (v := 0) C dX9_readOptions_94 (by decide) ?_
                    have hX : Hv = (0, (c1, c2, c3, c4, c5, c6), ((w 500 1 0), (w 30 1), (w 31 1), rout, rkeep, rleak, rhose, rstuck)) := by rw [← g3, m_dnn g1 (by clear g3 ew hB hC; grind)]; simp only [roT]; rw [← ew, if_neg (by assumption), if_neg (by assumption), ← hB, ← hC, if_pos (by assumption)]
                    rw [hH] at hX
                    exact v_zret C dX9_readOptions_95 (by decide) ⟨(by clear C SO ih_4; rw [hX]; first | done | rfl), (congr (congrArg Prod.mk (wS_eq (wS_eq (wS_eq (wS_eq (wS_eq (wS_eq (wS_eq (wS_eq (wS_eq (wS_eq (wS_eq rfl (by clear C SO ih_4; rw [hX]; first | done | rfl)) (by clear C SO ih_4; rw [hX]; first | done | rfl)) (by clear C SO ih_4; rw [hX]; first | done | rfl)) (by clear C SO ih_4; rw [hX]; first | done | rfl)) (by clear C SO ih_4; rw [hX]; first | done | rfl)) (fu_eq (by clear C SO ih_4; rw [hX]; first | done | rfl))) (fu_eq (by clear C SO ih_4; rw [hX]; first | done | rfl))) (fu_eq (by clear C SO ih_4; rw [hX]; first | done | rfl))) (fu_eq (by clear C SO ih_4; rw [hX]; first | done | rfl))) (fu_eq (by clear C SO ih_4; rw [hX]; first | done | rfl))) (fu_eq (by clear C SO ih_4; rw [hX]; first | done | rfl)))) rfl)⟩
                refine v_iload_n C 1 dX9_readOptions_52 rfl ?_
                refine v_iconst (v := 2) C dX9_readOptions_53 (by decide) ?_
                refine v_ic_ne C 61 dX9_readOptions_54 (by decide) (fun c_54 => ?_) (fun c_54 => ?_)
                · refine v_iload_n C 1 dX9_readOptions_61 rfl ?_
                  refine v_bipush (v := 6) C dX9_readOptions_62 (by decide) ?_
                  refine v_ic_ne C 74 dX9_readOptions_64 (by decide) (fun c_64 => ?_) (fun c_64 => ?_)
                  · refine v_aload_n C 3 dX9_readOptions_74 rfl ?_
                    refine v_gR C 9 0 0 8 0 (C_m C (u_9 0 (by decide))) k_9 (by decide) x_217 (fun _ _ _ => rfl) dX9_readOptions_75 ?_
                    refine v_iconst (v := 0) C dX9_readOptions_78 (by decide) ?_
                    refine v_iload_n C 1 dX9_readOptions_79 rfl ?_
                    refine v_sI C [.int wt] 1 (c_X9_mostOf E hE _ _  wt  ) m_X9_mostOf x_702 x_703 p_X9_mostOf rfl ⟨Nat.le_of_ble_eq_true rfl, Nat.le_of_ble_eq_true rfl⟩ rfl (Nat.le_of_ble_eq_true rfl) dX9_readOptions_80 (fun r5 u5 v5 hp5 => ?_)
                    obtain ⟨hr5, hu5⟩ := hp5
                    subst hr5
                    cases hu5
                    refine v_vI C 8 0 [.int 0, .int (moF wt)] 2 (c_X8_takeNumber E hE _ _  0 (moF wt)  (by clear C SO ih_4 hL86; (try simp only [wS_s, wS_t, wS_a, ne_eq, Nat.reduceEqDiff, not_false_eq_true]); rw [hB]; exact okT_rd okA)) m_X8_takeNumber x_664 x_665 x_666 p_X8_takeNumber rfl ⟨Nat.le_of_ble_eq_true rfl, Nat.le_of_ble_eq_true rfl⟩ (C_m C (u_8 0 (by decide))) k_8 rfl (Nat.le_of_ble_eq_true rfl) dX9_readOptions_83 (fun r6 u6 v6 hp6 => ?_)
                    obtain ⟨hr6, hu6⟩ := hp6
                    subst hr6
                    cases hu6
                    refine v_i (y := (tnT ((w 37 0), (w 661 0 0), (w 741 0 0)) (0 : Int32) (moF wt) (b1, b2, b3, b4, b5, b6)).1) (by simp only [wS_s, wS_t, wS_a, ne_eq, Nat.reduceEqDiff, not_false_eq_true]) ?_
                    refine v_w (w2 := (wS (wS (wS (wS (wS (wS (wS (wS (wS (wS (wS w 32 1 rout) 33 1 rkeep) 34 1 rleak) 35 1 rhose) 36 1 rstuck) 742 0 (fun _ => (tnT ((w 37 0), (w 661 0 0), (w 741 0 0)) (0 : Int32) (moF wt) (b1, b2, b3, b4, b5, b6)).2.2.2.1)) 743 0 (fun _ => (tnT ((w 37 0), (w 661 0 0), (w 741 0 0)) (0 : Int32) (moF wt) (b1, b2, b3, b4, b5, b6)).2.1)) 744 0 (fun _ => (tnT ((w 37 0), (w 661 0 0), (w 741 0 0)) (0 : Int32) (moF wt) (b1, b2, b3, b4, b5, b6)).2.2.1)) 745 0 (fun _ => (tnT ((w 37 0), (w 661 0 0), (w 741 0 0)) (0 : Int32) (moF wt) (b1, b2, b3, b4, b5, b6)).2.2.2.2.1)) 746 0 (fun _ => (tnT ((w 37 0), (w 661 0 0), (w 741 0 0)) (0 : Int32) (moF wt) (b1, b2, b3, b4, b5, b6)).2.2.2.2.2.1)) 747 0 (fun _ => (tnT ((w 37 0), (w 661 0 0), (w 741 0 0)) (0 : Int32) (moF wt) (b1, b2, b3, b4, b5, b6)).2.2.2.2.2.2))) (by simp only [wS_s, wS_t, wS_a, ne_eq, Nat.reduceEqDiff, not_false_eq_true, wS_wS, wS_p, wS_pp, Nat.reduceLT, id_eq]) ?_
                    exact hL86 ((tnT ((w 37 0), (w 661 0 0), (w 741 0 0)) (0 : Int32) (moF wt) (b1, b2, b3, b4, b5, b6)).1) ((tnT ((w 37 0), (w 661 0 0), (w 741 0 0)) (0 : Int32) (moF wt) (b1, b2, b3, b4, b5, b6)).2.1) ((tnT ((w 37 0), (w 661 0 0), (w 741 0 0)) (0 : Int32) (moF wt) (b1, b2, b3, b4, b5, b6)).2.2.1) ((tnT ((w 37 0), (w 661 0 0), (w 741 0 0)) (0 : Int32) (moF wt) (b1, b2, b3, b4, b5, b6)).2.2.2.1) ((tnT ((w 37 0), (w 661 0 0), (w 741 0 0)) (0 : Int32) (moF wt) (b1, b2, b3, b4, b5, b6)).2.2.2.2.1) ((tnT ((w 37 0), (w 661 0 0), (w 741 0 0)) (0 : Int32) (moF wt) (b1, b2, b3, b4, b5, b6)).2.2.2.2.2.1) ((tnT ((w 37 0), (w 661 0 0), (w 741 0 0)) (0 : Int32) (moF wt) (b1, b2, b3, b4, b5, b6)).2.2.2.2.2.2) (by clear C SO ih_4 hL86; simp only [roV]; first | (rw [if_pos (by assumption)]; done) | (rw [if_neg (by assumption), if_pos (by assumption)]; done) | (rw [if_neg (by assumption), if_neg (by assumption)]; done))
                  · refine v_aload_n C 3 dX9_readOptions_67 rfl ?_
                    refine v_vsI C SO 9 0 [] 0 (c_X9_takeStuck E hE _ _    (by clear C SO ih_4 hL86; (try simp only [wS_s, wS_t, wS_a, ne_eq, Nat.reduceEqDiff, not_false_eq_true]); rw [hB]; exact okT_rd okA)) m_X9_takeStuck x_696 x_698 x_7 p_X9_takeStuck rfl ⟨Nat.le_of_ble_eq_true rfl, Nat.le_of_ble_eq_true rfl⟩ (C_m C (u_9 0 (by decide))) k_9 rfl (Nat.le_of_ble_eq_true rfl) dX9_readOptions_68 (fun r7 u7 v7 hp7 => ?_)
                    obtain ⟨hr7, hu7⟩ := hp7
                    subst hr7
                    cases hu7
                    refine v_i (y := (tsT ((w 37 0), (w 661 0 0), (w 741 0 0)) (b1, b2, b3, b4, b5, b6)).1) (by simp only [wS_s, wS_t, wS_a, ne_eq, Nat.reduceEqDiff, not_false_eq_true]) ?_
                    refine v_w (w2 := (wS (wS (wS (wS (wS (wS (wS (wS (wS (wS (wS w 32 1 rout) 33 1 rkeep) 34 1 rleak) 35 1 rhose) 36 1 rstuck) 742 0 (fun _ => (tsT ((w 37 0), (w 661 0 0), (w 741 0 0)) (b1, b2, b3, b4, b5, b6)).2.2.2.1)) 743 0 (fun _ => (tsT ((w 37 0), (w 661 0 0), (w 741 0 0)) (b1, b2, b3, b4, b5, b6)).2.1)) 744 0 (fun _ => (tsT ((w 37 0), (w 661 0 0), (w 741 0 0)) (b1, b2, b3, b4, b5, b6)).2.2.1)) 745 0 (fun _ => (tsT ((w 37 0), (w 661 0 0), (w 741 0 0)) (b1, b2, b3, b4, b5, b6)).2.2.2.2.1)) 746 0 (fun _ => (tsT ((w 37 0), (w 661 0 0), (w 741 0 0)) (b1, b2, b3, b4, b5, b6)).2.2.2.2.2.1)) 747 0 (fun _ => (tsT ((w 37 0), (w 661 0 0), (w 741 0 0)) (b1, b2, b3, b4, b5, b6)).2.2.2.2.2.2))) (by simp only [wS_s, wS_t, wS_a, ne_eq, Nat.reduceEqDiff, not_false_eq_true, wS_wS, wS_p, wS_pp, Nat.reduceLT, id_eq]) ?_
                    refine v_goto C 86 dX9_readOptions_71 (by decide) ?_
                    exact hL86 ((tsT ((w 37 0), (w 661 0 0), (w 741 0 0)) (b1, b2, b3, b4, b5, b6)).1) ((tsT ((w 37 0), (w 661 0 0), (w 741 0 0)) (b1, b2, b3, b4, b5, b6)).2.1) ((tsT ((w 37 0), (w 661 0 0), (w 741 0 0)) (b1, b2, b3, b4, b5, b6)).2.2.1) ((tsT ((w 37 0), (w 661 0 0), (w 741 0 0)) (b1, b2, b3, b4, b5, b6)).2.2.2.1) ((tsT ((w 37 0), (w 661 0 0), (w 741 0 0)) (b1, b2, b3, b4, b5, b6)).2.2.2.2.1) ((tsT ((w 37 0), (w 661 0 0), (w 741 0 0)) (b1, b2, b3, b4, b5, b6)).2.2.2.2.2.1) ((tsT ((w 37 0), (w 661 0 0), (w 741 0 0)) (b1, b2, b3, b4, b5, b6)).2.2.2.2.2.2) (by clear C SO ih_4 hL86; simp only [roV]; first | (rw [if_pos (by assumption)]; done) | (rw [if_neg (by assumption), if_pos (by assumption)]; done) | (rw [if_neg (by assumption), if_neg (by assumption)]; done))
                · refine v_iconst (v := 1) C dX9_readOptions_57 (by decide) ?_
                  refine v_goto C 86 dX9_readOptions_58 (by decide) ?_
                  exact hL86 1 b1 b2 b3 b4 b5 b6 (by clear C SO ih_4 hL86; simp only [roV]; first | (rw [if_pos (by assumption)]; done) | (rw [if_neg (by assumption), if_pos (by assumption)]; done) | (rw [if_neg (by assumption), if_neg (by assumption)]; done))
              exact hL52 ((rdT ((w 37 0), (w 661 0 0), (w 741 0 0)) (a1, a2, a3, a4, a5, a6)).1) ((rdT ((w 37 0), (w 661 0 0), (w 741 0 0)) (a1, a2, a3, a4, a5, a6)).2.1) ((rdT ((w 37 0), (w 661 0 0), (w 741 0 0)) (a1, a2, a3, a4, a5, a6)).2.2.1) ((rdT ((w 37 0), (w 661 0 0), (w 741 0 0)) (a1, a2, a3, a4, a5, a6)).2.2.2.1) a5 a6 (by clear C SO ih_4 hL52; exact rdT_eta _ _ _ _ _ _ _)
            · refine v_aload_n C 3 dX9_readOptions_30 rfl ?_
              refine v_gR C 9 0 0 8 0 (C_m C (u_9 0 (by decide))) k_9 (by decide) x_217 (fun _ _ _ => rfl) dX9_readOptions_31 ?_
              refine v_iconst (v := 3) C dX9_readOptions_34 (by decide) ?_
              refine v_vI C 8 0 [.int 3] 1 (c_X8_refuse E hE _ _  3  ) m_X8_refuse x_659 x_660 x_661 p_X8_refuse rfl ⟨Nat.le_of_ble_eq_true rfl, Nat.le_of_ble_eq_true rfl⟩ (C_m C (u_8 0 (by decide))) k_8 rfl (Nat.le_of_ble_eq_true rfl) dX9_readOptions_35 (fun r8 u8 v8 hp8 => ?_)
              obtain ⟨hr8, hu8⟩ := hp8
              subst hr8
              cases hu8
              refine v_w (w2 := (wS (wS (wS (wS (wS (wS (wS (wS (wS (wS (wS w 32 1 rout) 33 1 rkeep) 34 1 rleak) 35 1 rhose) 36 1 rstuck) 742 0 (fun _ => a3)) 743 0 (fun _ => a1)) 744 0 (fun _ => a2)) 745 0 (fun _ => a4)) 746 0 (fun _ => 3)) 747 0 (fun _ => a1))) (by simp only [wS_s, wS_t, wS_a, ne_eq, Nat.reduceEqDiff, not_false_eq_true, wS_wS, wS_p, wS_pp, Nat.reduceLT, id_eq]) ?_
              have hX : Hv = (0, rfT 3 (a1, a2, a3, a4, a5, a6), ((w 500 1 0), (w 30 1), (w 31 1), rout, rkeep, rleak, rhose, rstuck)) := by rw [← g3, m_dnn g1 (by clear g3 ew; grind)]; simp only [roT]; rw [← ew, if_neg (by assumption), if_pos (by assumption)]
              rw [hH] at hX
              exact v_zret C dX9_readOptions_38 (by decide) ⟨(by clear C SO ih_4; rw [hX]; first | done | rfl), (congr (congrArg Prod.mk (wS_eq (wS_eq (wS_eq (wS_eq (wS_eq (wS_eq (wS_eq (wS_eq (wS_eq (wS_eq (wS_eq rfl (by clear C SO ih_4; rw [hX]; first | done | rfl)) (by clear C SO ih_4; rw [hX]; first | done | rfl)) (by clear C SO ih_4; rw [hX]; first | done | rfl)) (by clear C SO ih_4; rw [hX]; first | done | rfl)) (by clear C SO ih_4; rw [hX]; first | done | rfl)) (fu_eq (by clear C SO ih_4; rw [hX]; first | done | rfl))) (fu_eq (by clear C SO ih_4; rw [hX]; first | done | rfl))) (fu_eq (by clear C SO ih_4; rw [hX]; first | done | rfl))) (fu_eq (by clear C SO ih_4; rw [hX]; first | done | rfl))) (fu_eq (by clear C SO ih_4; rw [hX]; first | done | rfl))) (fu_eq (by clear C SO ih_4; rw [hX]; first | done | rfl)))) rfl)⟩
          · refine v_iconst (v := 1) C dX9_readOptions_19 (by decide) ?_
            have hX : Hv = (1, (a1, a2, a3, a4, a5, a6), ((w 500 1 0), (w 30 1), (w 31 1), rout, rkeep, rleak, rhose, rstuck)) := by rw [← g3, m_dnn g1 (by clear g3 ew; grind)]; simp only [roT]; rw [← ew, if_pos (by assumption)]
            rw [hH] at hX
            exact v_zret C dX9_readOptions_20 (by decide) ⟨(by clear C SO ih_4; rw [hX]; first | done | rfl), (congr (congrArg Prod.mk (wS_eq (wS_eq (wS_eq (wS_eq (wS_eq (wS_eq (wS_eq (wS_eq (wS_eq (wS_eq (wS_eq rfl (by clear C SO ih_4; rw [hX]; first | done | rfl)) (by clear C SO ih_4; rw [hX]; first | done | rfl)) (by clear C SO ih_4; rw [hX]; first | done | rfl)) (by clear C SO ih_4; rw [hX]; first | done | rfl)) (by clear C SO ih_4; rw [hX]; first | done | rfl)) (fu_eq (by clear C SO ih_4; rw [hX]; first | done | rfl))) (fu_eq (by clear C SO ih_4; rw [hX]; first | done | rfl))) (fu_eq (by clear C SO ih_4; rw [hX]; first | done | rfl))) (fu_eq (by clear C SO ih_4; rw [hX]; first | done | rfl))) (fu_eq (by clear C SO ih_4; rw [hX]; first | done | rfl))) (fu_eq (by clear C SO ih_4; rw [hX]; first | done | rfl)))) rfl)⟩
        exact hL14 (opT ((w 37 0), (w 661 0 0), (w 741 0 0)) (a1, a2, a3, a4, a5, a6)) (by clear C SO ih_4 hL14; rfl)
  refine v_w (wS_id _ 32 1).symm ?_
  refine v_w (wS_id _ 33 1).symm ?_
  refine v_w (wS_id _ 34 1).symm ?_
  refine v_w (wS_id _ 35 1).symm ?_
  refine v_w (wS_id _ 36 1).symm ?_
  refine v_tS C 742 0 (by decide) ?_
  refine v_tS C 743 0 (by decide) ?_
  refine v_tS C 744 0 (by decide) ?_
  refine v_tS C 745 0 (by decide) ?_
  refine v_tS C 746 0 (by decide) ?_
  refine v_tS C 747 0 (by decide) ?_
  refine v_w (w2 := (wS (wS (wS (wS (wS (wS (wS (wS (wS (wS (wS w 32 1 (w 32 1)) 33 1 (w 33 1)) 34 1 (w 34 1)) 35 1 (w 35 1)) 36 1 (w 36 1)) 742 0 (fun _ => (w 742 0 0))) 743 0 (fun _ => (w 743 0 0))) 744 0 (fun _ => (w 744 0 0))) 745 0 (fun _ => (w 745 0 0))) 746 0 (fun _ => (w 746 0 0))) 747 0 (fun _ => (w 747 0 0)))) (by simp only [wS_s, wS_t, wS_a, ne_eq, Nat.reduceEqDiff, not_false_eq_true, wS_wS, wS_p, wS_pp, Nat.reduceLT, id_eq]) ?_
  exact hL4 _ 0 0 (w 743 0 0) (w 744 0 0) (w 742 0 0) (w 745 0 0) (w 746 0 0) (w 747 0 0) (w 32 1) (w 33 1) (w 34 1) (w 35 1) (w 36 1) (Nat.lt_succ_self _) (by clear C SO hL4; exact ⟨by decide, by decide, h1, hH.symm⟩)
