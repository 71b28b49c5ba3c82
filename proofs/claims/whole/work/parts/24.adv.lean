abbrev P_X0_advance (w : Wi) (z : Wj) (a : Nat) (r : Nat) (v : Nat) : WW → Prop := fun u_ => u_ = ((wS (wS (wS (wS (wS (wS (wS w 13 a ((advF ((w 500 r 0), (w 501 r 0), (w 502 r 0), (w 30 r), (w 32 r), (w 33 r), (w 34 r), (w 35 r), (w 36 r)) ((w 420 v 0), (w 421 v 0), (w 27 v), (w 28 v), (w 29 v)) ((w 13 a), (w 14 a), (w 15 a), (w 16 a), (w 104 a 0), (w 105 a 0), (w 106 a 0), (w 107 a 0), (w 108 a 0), (w 109 a 0))).1)) 14 a ((advF ((w 500 r 0), (w 501 r 0), (w 502 r 0), (w 30 r), (w 32 r), (w 33 r), (w 34 r), (w 35 r), (w 36 r)) ((w 420 v 0), (w 421 v 0), (w 27 v), (w 28 v), (w 29 v)) ((w 13 a), (w 14 a), (w 15 a), (w 16 a), (w 104 a 0), (w 105 a 0), (w 106 a 0), (w 107 a 0), (w 108 a 0), (w 109 a 0))).2.1)) 15 a ((advF ((w 500 r 0), (w 501 r 0), (w 502 r 0), (w 30 r), (w 32 r), (w 33 r), (w 34 r), (w 35 r), (w 36 r)) ((w 420 v 0), (w 421 v 0), (w 27 v), (w 28 v), (w 29 v)) ((w 13 a), (w 14 a), (w 15 a), (w 16 a), (w 104 a 0), (w 105 a 0), (w 106 a 0), (w 107 a 0), (w 108 a 0), (w 109 a 0))).2.2.1)) 16 a ((advF ((w 500 r 0), (w 501 r 0), (w 502 r 0), (w 30 r), (w 32 r), (w 33 r), (w 34 r), (w 35 r), (w 36 r)) ((w 420 v 0), (w 421 v 0), (w 27 v), (w 28 v), (w 29 v)) ((w 13 a), (w 14 a), (w 15 a), (w 16 a), (w 104 a 0), (w 105 a 0), (w 106 a 0), (w 107 a 0), (w 108 a 0), (w 109 a 0))).2.2.2.1)) 104 a (fun _ => (advF ((w 500 r 0), (w 501 r 0), (w 502 r 0), (w 30 r), (w 32 r), (w 33 r), (w 34 r), (w 35 r), (w 36 r)) ((w 420 v 0), (w 421 v 0), (w 27 v), (w 28 v), (w 29 v)) ((w 13 a), (w 14 a), (w 15 a), (w 16 a), (w 104 a 0), (w 105 a 0), (w 106 a 0), (w 107 a 0), (w 108 a 0), (w 109 a 0))).2.2.2.2.1)) 105 a (fun _ => (advF ((w 500 r 0), (w 501 r 0), (w 502 r 0), (w 30 r), (w 32 r), (w 33 r), (w 34 r), (w 35 r), (w 36 r)) ((w 420 v 0), (w 421 v 0), (w 27 v), (w 28 v), (w 29 v)) ((w 13 a), (w 14 a), (w 15 a), (w 16 a), (w 104 a 0), (w 105 a 0), (w 106 a 0), (w 107 a 0), (w 108 a 0), (w 109 a 0))).2.2.2.2.2.1)) 109 a (fun _ => (advF ((w 500 r 0), (w 501 r 0), (w 502 r 0), (w 30 r), (w 32 r), (w 33 r), (w 34 r), (w 35 r), (w 36 r)) ((w 420 v 0), (w 421 v 0), (w 27 v), (w 28 v), (w 29 v)) ((w 13 a), (w 14 a), (w 15 a), (w 16 a), (w 104 a 0), (w 105 a 0), (w 106 a 0), (w 107 a 0), (w 108 a 0), (w 109 a 0))).2.2.2.2.2.2.2.2.2)), z)
set_option maxHeartbeats 4000000 in
set_option maxRecDepth 100000 in
theorem c_X0_advance (E : En) (hE : q_ok E) (w : Wi) (z : Wj) (a : Nat) (hi_a : a < 4) (r : Nat) (hi_r : r < 4) (v : Nat) (hi_v : v < 2) (h1 : 0 ≤ (w 500 r 0)) (h2 : (w 500 r 0) ≤ 16) : CtV M_X0_advance E [.ref (E.ad 0 a), .ref (E.ad 5 r), .ref (E.ad 4 v)] w z (P_X0_advance w z a r v) := by
  refine ctV_of (lv := [(0, .ref (E.ad 0 a)), (1, .ref (E.ad 5 r)), (2, .ref (E.ad 4 v))]) hE m_X0_advance (Nat.le_of_ble_eq_true rfl) rfl ?_
  intro K A C0
  have C : Cx K E A cX0_advance 8 RX0 none { frames := 2, cells := 0, slots := 0, locals := 48 } := C0
  clear C0
  refine v_aload_n C 0 dX0_advance_0 rfl ?_
  refine v_dup C dX0_advance_1 rfl ?_
  refine v_gI C 0 a 4 104 (w 104 a 0) (C_m C (u_0 a hi_a)) k_0 (by decide) rfl rfl x_286 rfl dX0_advance_2 ?_
  refine v_iconst (v := 1) C dX0_advance_5 (by decide) ?_
  refine v_iadd C dX0_advance_6 ?_
  refine v_pI C 0 a 4 104 (C_m C (u_0 a hi_a)) k_0 ty_0 (by decide) rfl ⟨rfl, rfl⟩ x_286 rfl rfl dX0_advance_7 ?_
  refine v_aload_n C 2 dX0_advance_10 rfl ?_
  refine v_aload_n C 0 dX0_advance_11 rfl ?_
  refine v_gI C 0 a 5 105 (w 105 a 0) (C_m C (u_0 a hi_a)) k_0 (by decide) rfl rfl x_287 (by simp only [wS_s, wS_t, wS_a, ne_eq, Nat.reduceEqDiff, not_false_eq_true]) dX0_advance_12 ?_
  refine v_aload_n C 0 dX0_advance_15 rfl ?_
  refine v_gI C 0 a 4 104 ((w 104 a 0) + 1) (C_m C (u_0 a hi_a)) k_0 (by decide) rfl rfl x_286 (by simp only [wS_s, wS_t, wS_a, ne_eq, Nat.reduceEqDiff, not_false_eq_true]) dX0_advance_16 ?_
  refine v_vI C 4 v [.int (w 105 a 0), .int ((w 104 a 0) + 1)] 2 (c_X4_isOver E hE _ _ v hi_v (w 105 a 0) ((w 104 a 0) + 1)  ) m_X4_isOver x_795 x_796 x_797 p_X4_isOver rfl ⟨Nat.le_of_ble_eq_true rfl, Nat.le_of_ble_eq_true rfl⟩ (C_m C (u_4 v hi_v)) k_4 rfl (Nat.le_of_ble_eq_true rfl) dX0_advance_19 (fun r1 u1 v1 hp1 => ?_)
  obtain ⟨hr1, hu1⟩ := hp1
  subst hr1
  cases hu1
  refine v_i (y := overF (w 420 v 0) (w 29 v) (w 105 a 0) ((w 104 a 0) + 1)) (by simp only [wS_s, wS_t, wS_a, ne_eq, Nat.reduceEqDiff, not_false_eq_true]) ?_
  have hL40 : ∀ (st1 : Int32) (sl1 : Int32), (st1 = (if (overF (w 420 v 0) (w 29 v) (w 105 a 0) ((w 104 a 0) + 1)) ≠ 0 then (w 105 a 0) + 1 else (w 105 a 0)) ∧ sl1 = (if (overF (w 420 v 0) (w 29 v) (w 105 a 0) ((w 104 a 0) + 1)) ≠ 0 then 0 else (w 109 a 0))) → V K E A 8 (QV K E A (P_X0_advance w z a r v)) 40 [(0, .ref (E.ad 0 a)), (1, .ref (E.ad 5 r)), (2, .ref (E.ad 4 v))] [] (wS (wS (wS w 104 a (fun _ => ((w 104 a 0) + 1))) 105 a (fun _ => st1)) 109 a (fun _ => sl1)) z := by
    intro st1 sl1 hinv
    obtain ⟨hst, hsl⟩ := hinv
    have hL56 : ∀ (sl2 : Int32), (sl2 = (if (w 104 a 0) + 1 = (w 108 a 0) then 0 else sl1)) → V K E A 8 (QV K E A (P_X0_advance w z a r v)) 56 [(0, .ref (E.ad 0 a)), (1, .ref (E.ad 5 r)), (2, .ref (E.ad 4 v))] [] (wS (wS (wS w 104 a (fun _ => ((w 104 a 0) + 1))) 105 a (fun _ => st1)) 109 a (fun _ => sl2)) z := by
      intro sl2 hinv
      have hsl2 := hinv
      refine v_aload_n C 0 dX0_advance_56 rfl ?_
      refine v_gI C 0 a 9 109 sl2 (C_m C (u_0 a hi_a)) k_0 (by decide) rfl rfl x_291 (by simp only [wS_s, wS_t, wS_a, ne_eq, Nat.reduceEqDiff, not_false_eq_true]) dX0_advance_57 ?_
      refine v_if_eq C 64 dX0_advance_60 (by decide) (fun c_60 => ?_) (fun c_60 => ?_)
      · refine v_aload_n C 0 dX0_advance_64 rfl ?_
        refine v_gR C 0 a 0 13 a (C_m C (u_0 a hi_a)) k_0 (by decide) x_281 (fun _ _ _ => rfl) dX0_advance_65 ?_
        refine v_iconst (v := 0) C dX0_advance_68 (by decide) ?_
        refine v_aload_n C 0 dX0_advance_69 rfl ?_
        refine v_gR C 0 a 1 14 a (C_m C (u_0 a hi_a)) k_0 (by decide) x_282 (fun _ _ _ => rfl) dX0_advance_70 ?_
        refine v_iconst (v := 0) C dX0_advance_73 (by decide) ?_
        refine v_bipush (v := 17) C dX0_advance_74 (by decide) ?_
        refine v_copyi C 13 a 14 a x_799 x_777 x_776 x_90 (C_m C (u_13 a hi_a)) ⟨by decide, rfl, rfl⟩ (C_m C (u_14 a hi_a)) ⟨by decide, rfl, rfl⟩ (by decide) (by decide) (by decide) (by decide) (by decide) ⟨by decide, Nat.le_of_ble_eq_true rfl⟩ dX0_advance_76 ?_
        refine v_w (w2 := (wS (wS (wS (wS w 14 a (va_cpy (w 13 a) (w 14 a) 0 0 17)) 104 a (fun _ => ((w 104 a 0) + 1))) 105 a (fun _ => st1)) 109 a (fun _ => sl2))) (by first | rfl | (simp only [wS_s, wS_t, wS_a, ne_eq, Nat.reduceEqDiff, not_false_eq_true, wS_wS, wS_p, wS_pp, Nat.reduceLT, id_eq]; try rfl)) ?_
        have hL98 : ∀ (ac : Int32), (ac = (if (w 106 a 0) ≠ 0 then 3 else stepF (w 420 v 0) (w 27 v) 1 st1)) → V K E A 8 (QV K E A (P_X0_advance w z a r v)) 98 [(0, .ref (E.ad 0 a)), (1, .ref (E.ad 5 r)), (2, .ref (E.ad 4 v))] [.int ac] (wS (wS (wS (wS w 14 a (va_cpy (w 13 a) (w 14 a) 0 0 17)) 104 a (fun _ => ((w 104 a 0) + 1))) 105 a (fun _ => st1)) 109 a (fun _ => sl2)) z := by
          intro ac hinv
          have hac := hinv
          refine v_istore_n (lv2 := [(3, .int ac), (0, .ref (E.ad 0 a)), (1, .ref (E.ad 5 r)), (2, .ref (E.ad 4 v))]) C dX0_advance_98 rfl (by decide) rfl ?_
          refine v_aload_n C 3 dX0_advance_99 rfl ?_
          refine v_aload_n C 1 dX0_advance_100 rfl ?_
          refine v_gI C 0 a 5 105 st1 (C_m C (u_0 a hi_a)) k_0 (by decide) rfl rfl x_287 (by simp only [wS_s, wS_t, wS_a, ne_eq, Nat.reduceEqDiff, not_false_eq_true]) dX0_advance_101 ?_
          refine v_vI C 4 v [.int st1] 1 (c_X4_amountOf E hE _ _ v hi_v st1  ) m_X4_amountOf x_804 x_805 x_806 p_X4_amountOf rfl ⟨Nat.le_of_ble_eq_true rfl, Nat.le_of_ble_eq_true rfl⟩ (C_m C (u_4 v hi_v)) k_4 rfl (Nat.le_of_ble_eq_true rfl) dX0_advance_104 (fun r2 u2 v2 hp2 => ?_)
          obtain ⟨hr2, hu2⟩ := hp2
          subst hr2
          cases hu2
          refine v_i (y := stepF (w 420 v 0) (w 28 v) 0 st1) (by simp only [wS_s, wS_t, wS_a, ne_eq, Nat.reduceEqDiff, not_false_eq_true]) ?_
          refine v_istore (lv2 := [(4, .int (stepF (w 420 v 0) (w 28 v) 0 st1)), (3, .int ac), (0, .ref (E.ad 0 a)), (1, .ref (E.ad 5 r)), (2, .ref (E.ad 4 v))]) C dX0_advance_107 (by decide) rfl ?_
          refine v_aload_n C 2 dX0_advance_109 rfl ?_
          refine v_aload_n C 3 dX0_advance_110 rfl ?_
          refine v_iload_n C 1 dX0_advance_111 rfl ?_
          refine v_iload C 0 dX0_advance_112 rfl ?_
          refine v_iconst (v := 0) C dX0_advance_114 (by decide) ?_
          refine v_vV C 0 a [.ref (E.ad 5 r), .int ac, .int (stepF (w 420 v 0) (w 28 v) 0 st1), .int 0] 4 (c_X0_work E hE _ _ a hi_a r hi_r ac (stepF (w 420 v 0) (w 28 v) 0 st1) 0  ) m_X0_work x_808 x_810 x_10 p_X0_work rfl ⟨Nat.le_of_ble_eq_true rfl, Nat.le_of_ble_eq_true rfl⟩ (C_m C (u_0 a hi_a)) k_0 rfl (Nat.le_of_ble_eq_true rfl) dX0_advance_115 (fun u3 v3 hp3 => ?_)
          have hu3 := hp3
          cases hu3
          refine v_w (w2 := (wS (wS (wS (wS (wS w 13 a (workF (w 501 r 0) (w 502 r 0) (w 13 a) ac (stepF (w 420 v 0) (w 28 v) 0 st1) (0 : Int32))) 14 a (va_cpy (w 13 a) (w 14 a) 0 0 17)) 104 a (fun _ => ((w 104 a 0) + 1))) 105 a (fun _ => st1)) 109 a (fun _ => sl2))) (by simp only [wS_s, wS_t, wS_a, ne_eq, Nat.reduceEqDiff, not_false_eq_true, wS_wS, wS_p, wS_pp, Nat.reduceLT, id_eq]) ?_
          have hL137 : ∀ (P2 : Row), (P2 = (if (w 421 v 0) ≠ 0 then workF (w 501 r 0) (w 502 r 0) (workF (w 501 r 0) (w 502 r 0) (w 13 a) ac (stepF (w 420 v 0) (w 28 v) 0 st1) (0 : Int32)) ac (stepF (w 420 v 0) (w 28 v) 0 st1) (w 500 r 0) else (workF (w 501 r 0) (w 502 r 0) (w 13 a) ac (stepF (w 420 v 0) (w 28 v) 0 st1) (0 : Int32)))) → V K E A 8 (QV K E A (P_X0_advance w z a r v)) 137 [(4, .int (stepF (w 420 v 0) (w 28 v) 0 st1)), (3, .int ac), (0, .ref (E.ad 0 a)), (1, .ref (E.ad 5 r)), (2, .ref (E.ad 4 v))] [] (wS (wS (wS (wS (wS w 13 a P2) 14 a (va_cpy (w 13 a) (w 14 a) 0 0 17)) 104 a (fun _ => ((w 104 a 0) + 1))) 105 a (fun _ => st1)) 109 a (fun _ => sl2)) z := by
            intro P2 hinv
            have hP2 := hinv
            have hL161 : ∀ (bf : Int32), (bf = (if (w 107 a 0) ≠ (-1) ∧ (w 108 a 0) ≤ (w 104 a 0) + 1 then 1 else 0)) → V K E A 8 (QV K E A (P_X0_advance w z a r v)) 161 [(4, .int (stepF (w 420 v 0) (w 28 v) 0 st1)), (3, .int ac), (0, .ref (E.ad 0 a)), (1, .ref (E.ad 5 r)), (2, .ref (E.ad 4 v))] [.int bf] (wS (wS (wS (wS (wS w 13 a P2) 14 a (va_cpy (w 13 a) (w 14 a) 0 0 17)) 104 a (fun _ => ((w 104 a 0) + 1))) 105 a (fun _ => st1)) 109 a (fun _ => sl2)) z := by
              intro bf hinv
              have hbf := hinv
              refine v_istore (lv2 := [(5, .int bf), (4, .int (stepF (w 420 v 0) (w 28 v) 0 st1)), (3, .int ac), (0, .ref (E.ad 0 a)), (1, .ref (E.ad 5 r)), (2, .ref (E.ad 4 v))]) C dX0_advance_161 (by decide) rfl ?_
              have hL178 : ∀ (br : Int32), (br = (if (w 107 a 0) ≠ (-1) ∧ (w 108 a 0) ≤ (w 104 a 0) + 1 then (w 107 a 0) else (-1))) → V K E A 8 (QV K E A (P_X0_advance w z a r v)) 178 [(5, .int bf), (4, .int (stepF (w 420 v 0) (w 28 v) 0 st1)), (3, .int ac), (0, .ref (E.ad 0 a)), (1, .ref (E.ad 5 r)), (2, .ref (E.ad 4 v))] [.int br, .ref (E.ad 5 r), .ref (E.ad 0 a)] (wS (wS (wS (wS (wS w 13 a P2) 14 a (va_cpy (w 13 a) (w 14 a) 0 0 17)) 104 a (fun _ => ((w 104 a 0) + 1))) 105 a (fun _ => st1)) 109 a (fun _ => sl2)) z := by
                intro br hinv
                have hbr := hinv
                refine v_vV C 0 a [.ref (E.ad 5 r), .int br] 2 (c_X0_flow E hE _ _ a hi_a r hi_r br  (by clear C; (try simp only [wS_s, wS_t, wS_a, ne_eq, Nat.reduceEqDiff, not_false_eq_true]); first | assumption | grind) (by clear C; (try simp only [wS_s, wS_t, wS_a, ne_eq, Nat.reduceEqDiff, not_false_eq_true]); first | assumption | grind)) m_X0_flow x_814 x_816 x_11 p_X0_flow rfl ⟨Nat.le_of_ble_eq_true rfl, Nat.le_of_ble_eq_true rfl⟩ (C_m C (u_0 a hi_a)) k_0 rfl (Nat.le_of_ble_eq_true rfl) dX0_advance_178 (fun u4 v4 hp4 => ?_)
                have hu4 := hp4
                cases hu4
                refine v_w (w2 := (wS (wS (wS (wS (wS w 13 a (flowF (w 500 r 0) (w 35 r) P2 br)) 14 a (va_cpy (w 13 a) (w 14 a) 0 0 17)) 104 a (fun _ => ((w 104 a 0) + 1))) 105 a (fun _ => st1)) 109 a (fun _ => sl2))) (by simp only [wS_s, wS_t, wS_a, ne_eq, Nat.reduceEqDiff, not_false_eq_true, wS_wS, wS_p, wS_pp, Nat.reduceLT, id_eq]) ?_
                have hL181 : ∀ (q : Row), (q = flowF (w 500 r 0) (w 35 r) P2 br) → V K E A 8 (QV K E A (P_X0_advance w z a r v)) 181 [(5, .int bf), (4, .int (stepF (w 420 v 0) (w 28 v) 0 st1)), (3, .int ac), (0, .ref (E.ad 0 a)), (1, .ref (E.ad 5 r)), (2, .ref (E.ad 4 v))] [] (wS (wS (wS (wS (wS w 13 a q) 14 a (va_cpy (w 13 a) (w 14 a) 0 0 17)) 104 a (fun _ => ((w 104 a 0) + 1))) 105 a (fun _ => st1)) 109 a (fun _ => sl2)) z := by
                  intro q hinv
                  have hq := hinv
                  refine v_iconst (v := 0) C dX0_advance_181 (by decide) ?_
                  refine v_istore (lv2 := [(6, .int 0), (5, .int bf), (4, .int (stepF (w 420 v 0) (w 28 v) 0 st1)), (3, .int ac), (0, .ref (E.ad 0 a)), (1, .ref (E.ad 5 r)), (2, .ref (E.ad 4 v))]) C dX0_advance_182 (by decide) rfl ?_
                  refine v_iconst (v := 1) C dX0_advance_184 (by decide) ?_
                  refine v_istore (lv2 := [(7, .int 1), (6, .int 0), (5, .int bf), (4, .int (stepF (w 420 v 0) (w 28 v) 0 st1)), (3, .int ac), (0, .ref (E.ad 0 a)), (1, .ref (E.ad 5 r)), (2, .ref (E.ad 4 v))]) C dX0_advance_185 (by decide) rfl ?_
                  have hL187 : ∀ (n_ : Nat) (mv : Int32) (i : Int32) (P : Row) (T : Row) (Y : Row), (17 - i).toNatClampNeg < n_ → (1 ≤ i ∧ i ≤ (w 500 r 0) + 1 ∧ P = cpR q (gP ((w 500 r 0), (w 501 r 0), (w 502 r 0), (w 30 r), (w 32 r), (w 33 r), (w 34 r), (w 35 r), (w 36 r)) q (w 15 a) (w 16 a)) i.toNatClampNeg ∧ T = cpR (w 15 a) (gT ((w 500 r 0), (w 501 r 0), (w 502 r 0), (w 30 r), (w 32 r), (w 33 r), (w 34 r), (w 35 r), (w 36 r)) q (w 15 a) (w 16 a)) i.toNatClampNeg ∧ Y = cpR (w 16 a) (gC ((w 500 r 0), (w 501 r 0), (w 502 r 0), (w 30 r), (w 32 r), (w 33 r), (w 34 r), (w 35 r), (w 36 r)) q (w 15 a) (w 16 a)) i.toNatClampNeg ∧ mv = mvR (gM ((w 500 r 0), (w 501 r 0), (w 502 r 0), (w 30 r), (w 32 r), (w 33 r), (w 34 r), (w 35 r), (w 36 r)) q (w 15 a) (w 16 a)) i.toNatClampNeg) → V K E A 8 (QV K E A (P_X0_advance w z a r v)) 187 [(7, .int i), (6, .int mv), (5, .int bf), (4, .int (stepF (w 420 v 0) (w 28 v) 0 st1)), (3, .int ac), (0, .ref (E.ad 0 a)), (1, .ref (E.ad 5 r)), (2, .ref (E.ad 4 v))] [] (wS (wS (wS (wS (wS (wS (wS w 13 a P) 14 a (va_cpy (w 13 a) (w 14 a) 0 0 17)) 15 a T) 16 a Y) 104 a (fun _ => ((w 104 a 0) + 1))) 105 a (fun _ => st1)) 109 a (fun _ => sl2)) z := by
                    intro n_
                    induction n_ with
                    | zero => intro mv i P T Y hm_; exact absurd hm_ (Nat.not_lt_zero _)
                    | succ n_ ih_187 =>
                      intro mv i P T Y hm_ hinv
                      obtain ⟨g1, g2, eP, eT, eY, em⟩ := hinv
                      have gq : P i.toNatClampNeg = q i.toNatClampNeg := by rw [eP, cpR_c]
                      have gt : T i.toNatClampNeg = (w 15 a) i.toNatClampNeg := by rw [eT, cpR_c]
                      have gc : Y i.toNatClampNeg = (w 16 a) i.toNatClampNeg := by rw [eY, cpR_c]
                      refine v_iload C 0 dX0_advance_187 rfl ?_
                      refine v_aload_n C 6 dX0_advance_189 rfl ?_
                      refine v_gI C 5 r 0 500 (w 500 r 0) (C_m C (u_5 r hi_r)) k_5 (by decide) rfl rfl x_171 (by simp only [wS_s, wS_t, wS_a, ne_eq, Nat.reduceEqDiff, not_false_eq_true]) dX0_advance_190 ?_
                      refine v_ic_gt C 261 dX0_advance_193 (by decide) (fun c_193 => ?_) (fun c_193 => ?_)
                      · have hL283 : ∀ (sv : Int32), (sv = (if mv = 0 ∧ sameR P (va_cpy (w 13 a) (w 14 a) 0 0 17) ((w 500 r 0) + 1).toNatClampNeg = 1 then 1 else 0)) → V K E A 8 (QV K E A (P_X0_advance w z a r v)) 283 [(7, .int i), (6, .int mv), (5, .int bf), (4, .int (stepF (w 420 v 0) (w 28 v) 0 st1)), (3, .int ac), (0, .ref (E.ad 0 a)), (1, .ref (E.ad 5 r)), (2, .ref (E.ad 4 v))] [.int sv, .ref (E.ad 0 a)] (wS (wS (wS (wS (wS (wS (wS w 13 a P) 14 a (va_cpy (w 13 a) (w 14 a) 0 0 17)) 15 a T) 16 a Y) 104 a (fun _ => ((w 104 a 0) + 1))) 105 a (fun _ => st1)) 109 a (fun _ => sl2)) z := by
                          intro sv hinv
                          have hsv := hinv
                          refine v_pI C 0 a 9 109 (C_m C (u_0 a hi_a)) k_0 ty_0 (by decide) rfl ⟨rfl, rfl⟩ x_291 (nb (by grind)) (fb (by grind)) dX0_advance_283 ?_
                          refine v_w (w2 := (wS (wS (wS (wS (wS (wS (wS w 13 a P) 14 a (va_cpy (w 13 a) (w 14 a) 0 0 17)) 15 a T) 16 a Y) 104 a (fun _ => ((w 104 a 0) + 1))) 105 a (fun _ => st1)) 109 a (fun _ => sv))) (by simp only [wS_s, wS_t, wS_a, ne_eq, Nat.reduceEqDiff, not_false_eq_true, wS_wS, wS_p, wS_pp, Nat.reduceLT, id_eq]) ?_
                          have hi : i = (w 500 r 0) + 1 := (by grind)
                          have hadv : (advF ((w 500 r 0), (w 501 r 0), (w 502 r 0), (w 30 r), (w 32 r), (w 33 r), (w 34 r), (w 35 r), (w 36 r)) ((w 420 v 0), (w 421 v 0), (w 27 v), (w 28 v), (w 29 v)) ((w 13 a), (w 14 a), (w 15 a), (w 16 a), (w 104 a 0), (w 105 a 0), (w 106 a 0), (w 107 a 0), (w 108 a 0), (w 109 a 0))) = (P, va_cpy (w 13 a) (w 14 a) 0 0 17, T, Y, (w 104 a 0) + 1, st1, (w 106 a 0), (w 107 a 0), (w 108 a 0), sv) := by subst hi; subst hsv; subst eP; subst eT; subst eY; subst em; subst hq; subst hbr; subst hP2; subst hac; subst hsl2; subst hsl; subst hst; simp only [advF, tailF]; rw [if_neg (show ¬ (if (w 104 a 0) + 1 = (w 108 a 0) then (0 : Int32) else if (overF (w 420 v 0) (w 29 v) (w 105 a 0) ((w 104 a 0) + 1)) ≠ 0 then 0 else (w 109 a 0)) ≠ 0 from not_not_intro (by assumption))]
                          exact v_vret C dX0_advance_286 (congr (congrArg Prod.mk (wS_eq (wS_eq (wS_eq (wS_eq (wS_eq (wS_eq (wS_eq rfl (by clear C ih_187; rw [hadv])) (by clear C ih_187; rw [hadv])) (by clear C ih_187; rw [hadv])) (by clear C ih_187; rw [hadv])) (fu_eq (by clear C ih_187; rw [hadv]))) (fu_eq (by clear C ih_187; rw [hadv]))) (fu_eq (by clear C ih_187; rw [hadv])))) rfl)
                        refine v_aload_n C 5 dX0_advance_261 rfl ?_
                        refine v_iload C 1 dX0_advance_262 rfl ?_
                        refine v_if_ne C 282 dX0_advance_264 (by decide) (fun c_264 => ?_) (fun c_264 => ?_)
                        · refine v_iconst (v := 0) C dX0_advance_282 (by decide) ?_
                          exact hL283 0 (by clear C ih_187 hL283; have h01 := sameR_01 P (va_cpy (w 13 a) (w 14 a) 0 0 17) ((w 500 r 0) + 1).toNatClampNeg; grind)
                        · refine v_aload_n C 5 dX0_advance_267 rfl ?_
                          refine v_aload_n C 6 dX0_advance_268 rfl ?_
                          refine v_gI C 5 r 0 500 (w 500 r 0) (C_m C (u_5 r hi_r)) k_5 (by decide) rfl rfl x_171 (by simp only [wS_s, wS_t, wS_a, ne_eq, Nat.reduceEqDiff, not_false_eq_true]) dX0_advance_269 ?_
                          refine v_vI C 0 a [.int (w 500 r 0)] 1 (c_X0_samePressure E hE _ _ a hi_a (w 500 r 0)  (by clear C ih_187 hL283; (try simp only [wS_s, wS_t, wS_a, ne_eq, Nat.reduceEqDiff, not_false_eq_true]); grind) (by clear C ih_187 hL283; (try simp only [wS_s, wS_t, wS_a, ne_eq, Nat.reduceEqDiff, not_false_eq_true]); first | assumption | grind)) m_X0_samePressure x_822 x_824 x_13 p_X0_samePressure rfl ⟨Nat.le_of_ble_eq_true rfl, Nat.le_of_ble_eq_true rfl⟩ (C_m C (u_0 a hi_a)) k_0 rfl (Nat.le_of_ble_eq_true rfl) dX0_advance_272 (fun r5 u5 v5 hp5 => ?_)
                          obtain ⟨hr5, hu5⟩ := hp5
                          subst hr5
                          cases hu5
                          refine v_i (y := sameR P (va_cpy (w 13 a) (w 14 a) 0 0 17) ((w 500 r 0) + 1).toNatClampNeg) (by simp only [wS_s, wS_t, wS_a, ne_eq, Nat.reduceEqDiff, not_false_eq_true]) ?_
                          refine v_if_eq C 282 dX0_advance_275 (by decide) (fun c_275 => ?_) (fun c_275 => ?_)
                          · refine v_iconst (v := 0) C dX0_advance_282 (by decide) ?_
                            exact hL283 0 (by clear C ih_187 hL283; have h01 := sameR_01 P (va_cpy (w 13 a) (w 14 a) 0 0 17) ((w 500 r 0) + 1).toNatClampNeg; grind)
                          · refine v_iconst (v := 1) C dX0_advance_278 (by decide) ?_
                            refine v_goto C 283 dX0_advance_279 (by decide) ?_
                            exact hL283 1 (by clear C ih_187 hL283; have h01 := sameR_01 P (va_cpy (w 13 a) (w 14 a) 0 0 17) ((w 500 r 0) + 1).toNatClampNeg; grind)
                      · refine v_iload C 0 dX0_advance_196 rfl ?_
                        refine v_bipush (v := 17) C dX0_advance_198 (by decide) ?_
                        refine v_ic_ge C 261 dX0_advance_200 (by decide) (fun c_200 => absurd c_200 (by clear C ih_187; grind)) (fun c_200 => ?_)
                        have hL255 : ∀ (m2 : Int32) (P3 : Row) (T3 : Row) (Y3 : Row), (P3 = cpR q (gP ((w 500 r 0), (w 501 r 0), (w 502 r 0), (w 30 r), (w 32 r), (w 33 r), (w 34 r), (w 35 r), (w 36 r)) q (w 15 a) (w 16 a)) (i.toNatClampNeg + 1) ∧ T3 = cpR (w 15 a) (gT ((w 500 r 0), (w 501 r 0), (w 502 r 0), (w 30 r), (w 32 r), (w 33 r), (w 34 r), (w 35 r), (w 36 r)) q (w 15 a) (w 16 a)) (i.toNatClampNeg + 1) ∧ Y3 = cpR (w 16 a) (gC ((w 500 r 0), (w 501 r 0), (w 502 r 0), (w 30 r), (w 32 r), (w 33 r), (w 34 r), (w 35 r), (w 36 r)) q (w 15 a) (w 16 a)) (i.toNatClampNeg + 1) ∧ m2 = mvR (gM ((w 500 r 0), (w 501 r 0), (w 502 r 0), (w 30 r), (w 32 r), (w 33 r), (w 34 r), (w 35 r), (w 36 r)) q (w 15 a) (w 16 a)) (i.toNatClampNeg + 1)) → V K E A 8 (QV K E A (P_X0_advance w z a r v)) 255 [(7, .int i), (6, .int m2), (5, .int bf), (4, .int (stepF (w 420 v 0) (w 28 v) 0 st1)), (3, .int ac), (0, .ref (E.ad 0 a)), (1, .ref (E.ad 5 r)), (2, .ref (E.ad 4 v))] [] (wS (wS (wS (wS (wS (wS (wS w 13 a P3) 14 a (va_cpy (w 13 a) (w 14 a) 0 0 17)) 15 a T3) 16 a Y3) 104 a (fun _ => ((w 104 a 0) + 1))) 105 a (fun _ => st1)) 109 a (fun _ => sl2)) z := by
                          intro m2 P3 T3 Y3 hinv
                          obtain ⟨e3, e4, e5, e6⟩ := hinv
                          refine v_iinc (v := i + 1) (lv2 := [(7, .int (i + 1)), (6, .int m2), (5, .int bf), (4, .int (stepF (w 420 v 0) (w 28 v) 0 st1)), (3, .int ac), (0, .ref (E.ad 0 a)), (1, .ref (E.ad 5 r)), (2, .ref (E.ad 4 v))]) C 0 dX0_advance_255 rfl rfl (by decide) rfl ?_
                          refine v_goto C 187 dX0_advance_258 (by decide) ?_
                          exact ih_187 m2 (i + 1) P3 T3 Y3 (by clear C ih_187; exact Nat.lt_of_lt_of_le (m_up (by grind) (by grind)) (Nat.le_of_lt_succ hm_)) (by clear C ih_187; exact ⟨by grind, by grind, by rw [cl_succ (by grind) (by grind)]; exact e3, by rw [cl_succ (by grind) (by grind)]; exact e4, by rw [cl_succ (by grind) (by grind)]; exact e5, by rw [cl_succ (by grind) (by grind)]; exact e6⟩)
                        refine v_aload_n C 5 dX0_advance_203 rfl ?_
                        refine v_gR C 0 a 0 13 a (C_m C (u_0 a hi_a)) k_0 (by decide) x_281 (fun _ _ _ => rfl) dX0_advance_204 ?_
                        refine v_iload C 0 dX0_advance_207 rfl ?_
                        refine v_dup2 C dX0_advance_209 rfl rfl ?_
                        refine v_iald C 13 a (C_m C (u_13 a hi_a)) ⟨by decide, rfl, rfl⟩ (v_in (N := 17) (by decide) (by clear C ih_187 hL255; grind) (by clear C ih_187 hL255; grind)) dX0_advance_210 ?_
                        refine v_i (y := (P i.toNatClampNeg)) (by simp only [wS_s, wS_t, wS_a, ne_eq, Nat.reduceEqDiff, not_false_eq_true]) ?_
                        refine v_aload_n C 5 dX0_advance_211 rfl ?_
                        refine v_gR C 0 a 0 13 a (C_m C (u_0 a hi_a)) k_0 (by decide) x_281 (fun _ _ _ => rfl) dX0_advance_212 ?_
                        refine v_iload C 0 dX0_advance_215 rfl ?_
                        refine v_iald C 13 a (C_m C (u_13 a hi_a)) ⟨by decide, rfl, rfl⟩ (v_in (N := 17) (by decide) (by clear C ih_187 hL255; grind) (by clear C ih_187 hL255; grind)) dX0_advance_217 ?_
                        refine v_i (y := (P i.toNatClampNeg)) (by simp only [wS_s, wS_t, wS_a, ne_eq, Nat.reduceEqDiff, not_false_eq_true]) ?_
                        refine v_aload_n C 6 dX0_advance_218 rfl ?_
                        refine v_gR C 5 r 7 34 r (C_m C (u_5 r hi_r)) k_5 (by decide) x_191 (fun _ _ _ => rfl) dX0_advance_219 ?_
                        refine v_iload C 0 dX0_advance_222 rfl ?_
                        refine v_iald C 34 r (C_m C (u_34 r hi_r)) ⟨by decide, rfl, rfl⟩ (v_in (N := 17) (by decide) (by clear C ih_187 hL255; grind) (by clear C ih_187 hL255; grind)) dX0_advance_224 ?_
                        refine v_i (y := ((w 34 r) i.toNatClampNeg)) (by simp only [wS_s, wS_t, wS_a, ne_eq, Nat.reduceEqDiff, not_false_eq_true]) ?_
                        refine v_imul C dX0_advance_225 ?_
                        refine v_sipush (v := 1000) C dX0_advance_226 (by decide) ?_
                        refine v_idiv C dX0_advance_229 (by decide) ?_
                        refine v_isub C dX0_advance_230 ?_
                        refine v_iast C 13 a (C_m C (u_13 a hi_a)) ⟨by decide, rfl, rfl⟩ (v_in (N := 17) (by decide) (by clear C ih_187 hL255; grind) (by clear C ih_187 hL255; grind)) dX0_advance_231 ?_
                        refine v_aload_n C 6 dX0_advance_232 rfl ?_
                        refine v_gR C 5 r 5 32 r (C_m C (u_5 r hi_r)) k_5 (by decide) x_186 (fun _ _ _ => rfl) dX0_advance_233 ?_
                        refine v_iload C 0 dX0_advance_236 rfl ?_
                        refine v_iald C 32 r (C_m C (u_32 r hi_r)) ⟨by decide, rfl, rfl⟩ (v_in (N := 17) (by decide) (by clear C ih_187 hL255; grind) (by clear C ih_187 hL255; grind)) dX0_advance_238 ?_
                        refine v_i (y := ((w 32 r) i.toNatClampNeg)) (by simp only [wS_s, wS_t, wS_a, ne_eq, Nat.reduceEqDiff, not_false_eq_true]) ?_
                        refine v_if_ne C 255 dX0_advance_239 (by decide) (fun c_239 => ?_) (fun c_239 => ?_)
                        · refine v_w (w2 := (wS (wS (wS (wS (wS (wS (wS w 13 a (upd P i.toNatClampNeg ((P i.toNatClampNeg) - (((P i.toNatClampNeg) * ((w 34 r) i.toNatClampNeg)) / 1000)))) 14 a (va_cpy (w 13 a) (w 14 a) 0 0 17)) 15 a T) 16 a Y) 104 a (fun _ => ((w 104 a 0) + 1))) 105 a (fun _ => st1)) 109 a (fun _ => sl2))) (by simp only [wS_s, wS_t, wS_a, ne_eq, Nat.reduceEqDiff, not_false_eq_true, wS_wS, wS_p, wS_pp, Nat.reduceLT, id_eq]) ?_
                          exact hL255 mv (upd P i.toNatClampNeg ((P i.toNatClampNeg) - (((P i.toNatClampNeg) * ((w 34 r) i.toNatClampNeg)) / 1000))) T Y (by clear C ih_187 hL255; first | exact q_cellin (R := ((w 500 r 0), (w 501 r 0), (w 502 r 0), (w 30 r), (w 32 r), (w 33 r), (w 34 r), (w 35 r), (w 36 r))) (q := q) (t := (w 15 a)) (cy := (w 16 a)) c_239 eP eT eY em gq gt gc (cl_pos g1) (by first | rw [if_neg (not_not_intro c_249)] | rw [if_pos c_249]) | exact q_cellout (R := ((w 500 r 0), (w 501 r 0), (w 502 r 0), (w 30 r), (w 32 r), (w 33 r), (w 34 r), (w 35 r), (w 36 r))) (q := q) (t := (w 15 a)) (cy := (w 16 a)) c_239 eP eT eY em gq gt gc (cl_pos g1))
                        · refine v_aload_n C 5 dX0_advance_242 rfl ?_
                          refine v_aload_n C 6 dX0_advance_243 rfl ?_
                          refine v_iload C 0 dX0_advance_244 rfl ?_
                          refine v_vI C 0 a [.ref (E.ad 5 r), .int i] 2 (c_X0_moveValve E hE _ _ a hi_a r hi_r i  (by clear C ih_187 hL255; (try simp only [wS_s, wS_t, wS_a, ne_eq, Nat.reduceEqDiff, not_false_eq_true]); first | assumption | grind) (by clear C ih_187 hL255; (try simp only [wS_s, wS_t, wS_a, ne_eq, Nat.reduceEqDiff, not_false_eq_true]); first | assumption | grind)) m_X0_moveValve x_818 x_820 x_12 p_X0_moveValve rfl ⟨Nat.le_of_ble_eq_true rfl, Nat.le_of_ble_eq_true rfl⟩ (C_m C (u_0 a hi_a)) k_0 rfl (Nat.le_of_ble_eq_true rfl) dX0_advance_246 (fun r6 u6 v6 hp6 => ?_)
                          obtain ⟨hr6, hu6⟩ := hp6
                          subst hr6
                          cases hu6
                          refine v_i (y := (vlv ((w 30 r) (i).toNatClampNeg) ((w 36 r) (i).toNatClampNeg) ((w 33 r) (i).toNatClampNeg) ((upd P i.toNatClampNeg ((P i.toNatClampNeg) - (((P i.toNatClampNeg) * ((w 34 r) i.toNatClampNeg)) / 1000))) (i).toNatClampNeg) (T (i).toNatClampNeg) (Y (i).toNatClampNeg)).1) (by simp only [wS_s, wS_t, wS_a, ne_eq, Nat.reduceEqDiff, not_false_eq_true]) ?_
                          refine v_w (w2 := (wS (wS (wS (wS (wS (wS (wS w 13 a (upd (upd P i.toNatClampNeg ((P i.toNatClampNeg) - (((P i.toNatClampNeg) * ((w 34 r) i.toNatClampNeg)) / 1000))) (i).toNatClampNeg (vlv ((w 30 r) (i).toNatClampNeg) ((w 36 r) (i).toNatClampNeg) ((w 33 r) (i).toNatClampNeg) ((upd P i.toNatClampNeg ((P i.toNatClampNeg) - (((P i.toNatClampNeg) * ((w 34 r) i.toNatClampNeg)) / 1000))) (i).toNatClampNeg) (T (i).toNatClampNeg) (Y (i).toNatClampNeg)).2.1)) 14 a (va_cpy (w 13 a) (w 14 a) 0 0 17)) 15 a (upd T (i).toNatClampNeg (vlv ((w 30 r) (i).toNatClampNeg) ((w 36 r) (i).toNatClampNeg) ((w 33 r) (i).toNatClampNeg) ((upd P i.toNatClampNeg ((P i.toNatClampNeg) - (((P i.toNatClampNeg) * ((w 34 r) i.toNatClampNeg)) / 1000))) (i).toNatClampNeg) (T (i).toNatClampNeg) (Y (i).toNatClampNeg)).2.2.1)) 16 a (upd Y (i).toNatClampNeg (vlv ((w 30 r) (i).toNatClampNeg) ((w 36 r) (i).toNatClampNeg) ((w 33 r) (i).toNatClampNeg) ((upd P i.toNatClampNeg ((P i.toNatClampNeg) - (((P i.toNatClampNeg) * ((w 34 r) i.toNatClampNeg)) / 1000))) (i).toNatClampNeg) (T (i).toNatClampNeg) (Y (i).toNatClampNeg)).2.2.2)) 104 a (fun _ => ((w 104 a 0) + 1))) 105 a (fun _ => st1)) 109 a (fun _ => sl2))) (by simp only [wS_s, wS_t, wS_a, ne_eq, Nat.reduceEqDiff, not_false_eq_true, wS_wS, wS_p, wS_pp, Nat.reduceLT, id_eq]) ?_
                          refine v_if_eq C 255 dX0_advance_249 (by decide) (fun c_249 => ?_) (fun c_249 => ?_)
                          · exact hL255 mv (upd (upd P i.toNatClampNeg ((P i.toNatClampNeg) - (((P i.toNatClampNeg) * ((w 34 r) i.toNatClampNeg)) / 1000))) (i).toNatClampNeg (vlv ((w 30 r) (i).toNatClampNeg) ((w 36 r) (i).toNatClampNeg) ((w 33 r) (i).toNatClampNeg) ((upd P i.toNatClampNeg ((P i.toNatClampNeg) - (((P i.toNatClampNeg) * ((w 34 r) i.toNatClampNeg)) / 1000))) (i).toNatClampNeg) (T (i).toNatClampNeg) (Y (i).toNatClampNeg)).2.1) (upd T (i).toNatClampNeg (vlv ((w 30 r) (i).toNatClampNeg) ((w 36 r) (i).toNatClampNeg) ((w 33 r) (i).toNatClampNeg) ((upd P i.toNatClampNeg ((P i.toNatClampNeg) - (((P i.toNatClampNeg) * ((w 34 r) i.toNatClampNeg)) / 1000))) (i).toNatClampNeg) (T (i).toNatClampNeg) (Y (i).toNatClampNeg)).2.2.1) (upd Y (i).toNatClampNeg (vlv ((w 30 r) (i).toNatClampNeg) ((w 36 r) (i).toNatClampNeg) ((w 33 r) (i).toNatClampNeg) ((upd P i.toNatClampNeg ((P i.toNatClampNeg) - (((P i.toNatClampNeg) * ((w 34 r) i.toNatClampNeg)) / 1000))) (i).toNatClampNeg) (T (i).toNatClampNeg) (Y (i).toNatClampNeg)).2.2.2) (by clear C ih_187 hL255; first | exact q_cellin (R := ((w 500 r 0), (w 501 r 0), (w 502 r 0), (w 30 r), (w 32 r), (w 33 r), (w 34 r), (w 35 r), (w 36 r))) (q := q) (t := (w 15 a)) (cy := (w 16 a)) c_239 eP eT eY em gq gt gc (cl_pos g1) (by first | rw [if_neg (not_not_intro c_249)] | rw [if_pos c_249]) | exact q_cellout (R := ((w 500 r 0), (w 501 r 0), (w 502 r 0), (w 30 r), (w 32 r), (w 33 r), (w 34 r), (w 35 r), (w 36 r))) (q := q) (t := (w 15 a)) (cy := (w 16 a)) c_239 eP eT eY em gq gt gc (cl_pos g1))
                          · refine v_iconst (v := 1) C dX0_advance_252 (by decide) ?_
                            refine v_istore (lv2 := [(6, .int 1), (7, .int i), (5, .int bf), (4, .int (stepF (w 420 v 0) (w 28 v) 0 st1)), (3, .int ac), (0, .ref (E.ad 0 a)), (1, .ref (E.ad 5 r)), (2, .ref (E.ad 4 v))]) C dX0_advance_253 (by decide) rfl ?_
                            refine v_l [1, 0, 2, 3, 4, 5, 6, 7] rfl ?_
                            exact hL255 1 (upd (upd P i.toNatClampNeg ((P i.toNatClampNeg) - (((P i.toNatClampNeg) * ((w 34 r) i.toNatClampNeg)) / 1000))) (i).toNatClampNeg (vlv ((w 30 r) (i).toNatClampNeg) ((w 36 r) (i).toNatClampNeg) ((w 33 r) (i).toNatClampNeg) ((upd P i.toNatClampNeg ((P i.toNatClampNeg) - (((P i.toNatClampNeg) * ((w 34 r) i.toNatClampNeg)) / 1000))) (i).toNatClampNeg) (T (i).toNatClampNeg) (Y (i).toNatClampNeg)).2.1) (upd T (i).toNatClampNeg (vlv ((w 30 r) (i).toNatClampNeg) ((w 36 r) (i).toNatClampNeg) ((w 33 r) (i).toNatClampNeg) ((upd P i.toNatClampNeg ((P i.toNatClampNeg) - (((P i.toNatClampNeg) * ((w 34 r) i.toNatClampNeg)) / 1000))) (i).toNatClampNeg) (T (i).toNatClampNeg) (Y (i).toNatClampNeg)).2.2.1) (upd Y (i).toNatClampNeg (vlv ((w 30 r) (i).toNatClampNeg) ((w 36 r) (i).toNatClampNeg) ((w 33 r) (i).toNatClampNeg) ((upd P i.toNatClampNeg ((P i.toNatClampNeg) - (((P i.toNatClampNeg) * ((w 34 r) i.toNatClampNeg)) / 1000))) (i).toNatClampNeg) (T (i).toNatClampNeg) (Y (i).toNatClampNeg)).2.2.2) (by clear C ih_187 hL255; first | exact q_cellin (R := ((w 500 r 0), (w 501 r 0), (w 502 r 0), (w 30 r), (w 32 r), (w 33 r), (w 34 r), (w 35 r), (w 36 r))) (q := q) (t := (w 15 a)) (cy := (w 16 a)) c_239 eP eT eY em gq gt gc (cl_pos g1) (by first | rw [if_neg (not_not_intro c_249)] | rw [if_pos c_249]) | exact q_cellout (R := ((w 500 r 0), (w 501 r 0), (w 502 r 0), (w 30 r), (w 32 r), (w 33 r), (w 34 r), (w 35 r), (w 36 r))) (q := q) (t := (w 15 a)) (cy := (w 16 a)) c_239 eP eT eY em gq gt gc (cl_pos g1))
                  refine v_w (wS_id _ 15 a).symm ?_
                  refine v_w (wS_id _ 16 a).symm ?_
                  refine v_w (w2 := (wS (wS (wS (wS (wS (wS (wS w 13 a q) 14 a (va_cpy (w 13 a) (w 14 a) 0 0 17)) 15 a (w 15 a)) 16 a (w 16 a)) 104 a (fun _ => ((w 104 a 0) + 1))) 105 a (fun _ => st1)) 109 a (fun _ => sl2))) (by simp only [wS_s, wS_t, wS_a, ne_eq, Nat.reduceEqDiff, not_false_eq_true, wS_wS, wS_p, wS_pp, Nat.reduceLT, id_eq]) ?_
                  exact hL187 _ 0 1 q (w 15 a) (w 16 a) (Nat.lt_succ_self _) (by clear C hL187; exact ⟨by decide, by grind, (cpR_1 _ _).symm, (cpR_1 _ _).symm, (cpR_1 _ _).symm, rfl⟩)
                exact hL181 (flowF (w 500 r 0) (w 35 r) P2 br) (by clear C hL181; rfl)
              refine v_aload_n C 3 dX0_advance_163 rfl ?_
              refine v_aload_n C 4 dX0_advance_164 rfl ?_
              refine v_iload C 0 dX0_advance_165 rfl ?_
              refine v_if_eq C 177 dX0_advance_167 (by decide) (fun c_167 => ?_) (fun c_167 => ?_)
              · refine v_iconst (v := (-1)) C dX0_advance_177 (by decide) ?_
                exact hL178 (-1) (by clear C hL178; grind)
              · refine v_aload_n C 3 dX0_advance_170 rfl ?_
                refine v_gI C 0 a 7 107 (w 107 a 0) (C_m C (u_0 a hi_a)) k_0 (by decide) rfl rfl x_289 (by simp only [wS_s, wS_t, wS_a, ne_eq, Nat.reduceEqDiff, not_false_eq_true]) dX0_advance_171 ?_
                refine v_goto C 178 dX0_advance_174 (by decide) ?_
                exact hL178 (w 107 a 0) (by clear C hL178; grind)
            refine v_aload_n C 2 dX0_advance_137 rfl ?_
            refine v_gI C 0 a 7 107 (w 107 a 0) (C_m C (u_0 a hi_a)) k_0 (by decide) rfl rfl x_289 (by simp only [wS_s, wS_t, wS_a, ne_eq, Nat.reduceEqDiff, not_false_eq_true]) dX0_advance_138 ?_
            refine v_iconst (v := (-1)) C dX0_advance_141 (by decide) ?_
            refine v_ic_eq C 160 dX0_advance_142 (by decide) (fun c_142 => ?_) (fun c_142 => ?_)
            · refine v_iconst (v := 0) C dX0_advance_160 (by decide) ?_
              exact hL161 0 (by clear C hL161; grind)
            · refine v_aload_n C 2 dX0_advance_145 rfl ?_
              refine v_gI C 0 a 4 104 ((w 104 a 0) + 1) (C_m C (u_0 a hi_a)) k_0 (by decide) rfl rfl x_286 (by simp only [wS_s, wS_t, wS_a, ne_eq, Nat.reduceEqDiff, not_false_eq_true]) dX0_advance_146 ?_
              refine v_aload_n C 2 dX0_advance_149 rfl ?_
              refine v_gI C 0 a 8 108 (w 108 a 0) (C_m C (u_0 a hi_a)) k_0 (by decide) rfl rfl x_290 (by simp only [wS_s, wS_t, wS_a, ne_eq, Nat.reduceEqDiff, not_false_eq_true]) dX0_advance_150 ?_
              refine v_ic_lt C 160 dX0_advance_153 (by decide) (fun c_153 => ?_) (fun c_153 => ?_)
              · refine v_iconst (v := 0) C dX0_advance_160 (by decide) ?_
                exact hL161 0 (by clear C hL161; grind)
              · refine v_iconst (v := 1) C dX0_advance_156 (by decide) ?_
                refine v_goto C 161 dX0_advance_157 (by decide) ?_
                exact hL161 1 (by clear C hL161; grind)
          refine v_aload_n C 4 dX0_advance_118 rfl ?_
          refine v_gI C 4 v 1 421 (w 421 v 0) (C_m C (u_4 v hi_v)) k_4 (by decide) rfl rfl x_248 (by simp only [wS_s, wS_t, wS_a, ne_eq, Nat.reduceEqDiff, not_false_eq_true]) dX0_advance_119 ?_
          refine v_if_eq C 137 dX0_advance_122 (by decide) (fun c_122 => ?_) (fun c_122 => ?_)
          · exact hL137 (workF (w 501 r 0) (w 502 r 0) (w 13 a) ac (stepF (w 420 v 0) (w 28 v) 0 st1) (0 : Int32)) (by clear C hL137; grind)
          · refine v_aload_n C 2 dX0_advance_125 rfl ?_
            refine v_aload_n C 3 dX0_advance_126 rfl ?_
            refine v_iload_n C 1 dX0_advance_127 rfl ?_
            refine v_iload C 0 dX0_advance_128 rfl ?_
            refine v_aload_n C 3 dX0_advance_130 rfl ?_
            refine v_gI C 5 r 0 500 (w 500 r 0) (C_m C (u_5 r hi_r)) k_5 (by decide) rfl rfl x_171 (by simp only [wS_s, wS_t, wS_a, ne_eq, Nat.reduceEqDiff, not_false_eq_true]) dX0_advance_131 ?_
            refine v_vV C 0 a [.ref (E.ad 5 r), .int ac, .int (stepF (w 420 v 0) (w 28 v) 0 st1), .int (w 500 r 0)] 4 (c_X0_work E hE _ _ a hi_a r hi_r ac (stepF (w 420 v 0) (w 28 v) 0 st1) (w 500 r 0)  ) m_X0_work x_808 x_810 x_10 p_X0_work rfl ⟨Nat.le_of_ble_eq_true rfl, Nat.le_of_ble_eq_true rfl⟩ (C_m C (u_0 a hi_a)) k_0 rfl (Nat.le_of_ble_eq_true rfl) dX0_advance_134 (fun u7 v7 hp7 => ?_)
            have hu7 := hp7
            cases hu7
            refine v_w (w2 := (wS (wS (wS (wS (wS w 13 a (workF (w 501 r 0) (w 502 r 0) (workF (w 501 r 0) (w 502 r 0) (w 13 a) ac (stepF (w 420 v 0) (w 28 v) 0 st1) (0 : Int32)) ac (stepF (w 420 v 0) (w 28 v) 0 st1) (w 500 r 0))) 14 a (va_cpy (w 13 a) (w 14 a) 0 0 17)) 104 a (fun _ => ((w 104 a 0) + 1))) 105 a (fun _ => st1)) 109 a (fun _ => sl2))) (by simp only [wS_s, wS_t, wS_a, ne_eq, Nat.reduceEqDiff, not_false_eq_true, wS_wS, wS_p, wS_pp, Nat.reduceLT, id_eq]) ?_
            exact hL137 (workF (w 501 r 0) (w 502 r 0) (workF (w 501 r 0) (w 502 r 0) (w 13 a) ac (stepF (w 420 v 0) (w 28 v) 0 st1) (0 : Int32)) ac (stepF (w 420 v 0) (w 28 v) 0 st1) (w 500 r 0)) (by clear C hL137; grind)
        refine v_aload_n C 0 dX0_advance_79 rfl ?_
        refine v_gI C 0 a 6 106 (w 106 a 0) (C_m C (u_0 a hi_a)) k_0 (by decide) rfl rfl x_288 (by simp only [wS_s, wS_t, wS_a, ne_eq, Nat.reduceEqDiff, not_false_eq_true]) dX0_advance_80 ?_
        refine v_if_eq C 90 dX0_advance_83 (by decide) (fun c_83 => ?_) (fun c_83 => ?_)
        · refine v_aload_n C 2 dX0_advance_90 rfl ?_
          refine v_aload_n C 0 dX0_advance_91 rfl ?_
          refine v_gI C 0 a 5 105 st1 (C_m C (u_0 a hi_a)) k_0 (by decide) rfl rfl x_287 (by simp only [wS_s, wS_t, wS_a, ne_eq, Nat.reduceEqDiff, not_false_eq_true]) dX0_advance_92 ?_
          refine v_vI C 4 v [.int st1] 1 (c_X4_actOf E hE _ _ v hi_v st1  ) m_X4_actOf x_800 x_801 x_802 p_X4_actOf rfl ⟨Nat.le_of_ble_eq_true rfl, Nat.le_of_ble_eq_true rfl⟩ (C_m C (u_4 v hi_v)) k_4 rfl (Nat.le_of_ble_eq_true rfl) dX0_advance_95 (fun r8 u8 v8 hp8 => ?_)
          obtain ⟨hr8, hu8⟩ := hp8
          subst hr8
          cases hu8
          refine v_i (y := stepF (w 420 v 0) (w 27 v) 1 st1) (by simp only [wS_s, wS_t, wS_a, ne_eq, Nat.reduceEqDiff, not_false_eq_true]) ?_
          exact hL98 (stepF (w 420 v 0) (w 27 v) 1 st1) (by clear C hL98; grind)
        · refine v_iconst (v := 3) C dX0_advance_86 (by decide) ?_
          refine v_goto C 98 dX0_advance_87 (by decide) ?_
          exact hL98 3 (by clear C hL98; grind)
      · refine v_w (wS_id _ 13 a).symm ?_
        refine v_w (wS_id _ 14 a).symm ?_
        refine v_w (wS_id _ 15 a).symm ?_
        refine v_w (wS_id _ 16 a).symm ?_
        refine v_w (w2 := (wS (wS (wS (wS (wS (wS (wS w 13 a (w 13 a)) 14 a (w 14 a)) 15 a (w 15 a)) 16 a (w 16 a)) 104 a (fun _ => ((w 104 a 0) + 1))) 105 a (fun _ => st1)) 109 a (fun _ => sl2))) (by simp only [wS_s, wS_t, wS_a, ne_eq, Nat.reduceEqDiff, not_false_eq_true, wS_wS, wS_p, wS_pp, Nat.reduceLT, id_eq]) ?_
        have hadv : (advF ((w 500 r 0), (w 501 r 0), (w 502 r 0), (w 30 r), (w 32 r), (w 33 r), (w 34 r), (w 35 r), (w 36 r)) ((w 420 v 0), (w 421 v 0), (w 27 v), (w 28 v), (w 29 v)) ((w 13 a), (w 14 a), (w 15 a), (w 16 a), (w 104 a 0), (w 105 a 0), (w 106 a 0), (w 107 a 0), (w 108 a 0), (w 109 a 0))) = ((w 13 a), (w 14 a), (w 15 a), (w 16 a), (w 104 a 0) + 1, st1, (w 106 a 0), (w 107 a 0), (w 108 a 0), sl2) := by subst hsl2; subst hsl; subst hst; simp only [advF]; rw [if_pos (show (if (w 104 a 0) + 1 = (w 108 a 0) then (0 : Int32) else if (overF (w 420 v 0) (w 29 v) (w 105 a 0) ((w 104 a 0) + 1)) ≠ 0 then 0 else (w 109 a 0)) ≠ 0 by assumption)]
        exact v_vret C dX0_advance_63 (congr (congrArg Prod.mk (wS_eq (wS_eq (wS_eq (wS_eq (wS_eq (wS_eq (wS_eq rfl (by clear C; rw [hadv])) (by clear C; rw [hadv])) (by clear C; rw [hadv])) (by clear C; rw [hadv])) (fu_eq (by clear C; rw [hadv]))) (fu_eq (by clear C; rw [hadv]))) (fu_eq (by clear C; rw [hadv])))) rfl)
    refine v_aload_n C 0 dX0_advance_40 rfl ?_
    refine v_gI C 0 a 4 104 ((w 104 a 0) + 1) (C_m C (u_0 a hi_a)) k_0 (by decide) rfl rfl x_286 (by simp only [wS_s, wS_t, wS_a, ne_eq, Nat.reduceEqDiff, not_false_eq_true]) dX0_advance_41 ?_
    refine v_aload_n C 0 dX0_advance_44 rfl ?_
    refine v_gI C 0 a 8 108 (w 108 a 0) (C_m C (u_0 a hi_a)) k_0 (by decide) rfl rfl x_290 (by simp only [wS_s, wS_t, wS_a, ne_eq, Nat.reduceEqDiff, not_false_eq_true]) dX0_advance_45 ?_
    refine v_ic_ne C 56 dX0_advance_48 (by decide) (fun c_48 => ?_) (fun c_48 => ?_)
    · exact hL56 sl1 (by clear C hL56; grind)
    · refine v_aload_n C 0 dX0_advance_51 rfl ?_
      refine v_iconst (v := 0) C dX0_advance_52 (by decide) ?_
      refine v_pI C 0 a 9 109 (C_m C (u_0 a hi_a)) k_0 ty_0 (by decide) rfl ⟨rfl, rfl⟩ x_291 (by decide) (by decide) dX0_advance_53 ?_
      refine v_w (w2 := (wS (wS (wS w 104 a (fun _ => ((w 104 a 0) + 1))) 105 a (fun _ => st1)) 109 a (fun _ => 0))) (by simp only [wS_s, wS_t, wS_a, ne_eq, Nat.reduceEqDiff, not_false_eq_true, wS_wS, wS_p, wS_pp, Nat.reduceLT, id_eq]) ?_
      exact hL56 0 (by clear C hL56; grind)
  refine v_if_eq C 40 dX0_advance_22 (by decide) (fun c_22 => ?_) (fun c_22 => ?_)
  · refine v_tS C 105 a (by decide) ?_
    refine v_tS C 109 a (by decide) ?_
    refine v_w (w2 := (wS (wS (wS w 104 a (fun _ => ((w 104 a 0) + 1))) 105 a (fun _ => (w 105 a 0))) 109 a (fun _ => (w 109 a 0)))) (by simp only [wS_s, wS_t, wS_a, ne_eq, Nat.reduceEqDiff, not_false_eq_true, wS_wS, wS_p, wS_pp, Nat.reduceLT, id_eq]) ?_
    exact hL40 (w 105 a 0) (w 109 a 0) (by clear C hL40; grind)
  · refine v_aload_n C 0 dX0_advance_25 rfl ?_
    refine v_dup C dX0_advance_26 rfl ?_
    refine v_gI C 0 a 5 105 (w 105 a 0) (C_m C (u_0 a hi_a)) k_0 (by decide) rfl rfl x_287 (by simp only [wS_s, wS_t, wS_a, ne_eq, Nat.reduceEqDiff, not_false_eq_true]) dX0_advance_27 ?_
    refine v_iconst (v := 1) C dX0_advance_30 (by decide) ?_
    refine v_iadd C dX0_advance_31 ?_
    refine v_pI C 0 a 5 105 (C_m C (u_0 a hi_a)) k_0 ty_0 (by decide) rfl ⟨rfl, rfl⟩ x_287 rfl rfl dX0_advance_32 ?_
    refine v_aload_n C 0 dX0_advance_35 rfl ?_
    refine v_iconst (v := 0) C dX0_advance_36 (by decide) ?_
    refine v_pI C 0 a 9 109 (C_m C (u_0 a hi_a)) k_0 ty_0 (by decide) rfl ⟨rfl, rfl⟩ x_291 (by decide) (by decide) dX0_advance_37 ?_
    exact hL40 ((w 105 a 0) + 1) 0 (by clear C hL40; grind)
