abbrev P_X11_feed (w : Wi) (z : Wj) (a : Int32) (b : Int32) (c : Int32) (d : Int32) (e : Int32) : Int32 → WW → Prop := fun r_ u_ => r_ = (if (w 661 0 0) ≤ 720 then (w 661 0 0) + 4 + 4 + 4 + 4 + 4 else (-1)) ∧ u_ = ((wS (wS w 37 0 (if (w 661 0 0) ≤ 720 then put4 (put4 (put4 (put4 (put4 (w 37 0) (w 661 0 0) a) ((w 661 0 0) + 4) b) ((w 661 0 0) + 4 + 4) c) ((w 661 0 0) + 4 + 4 + 4) d) ((w 661 0 0) + 4 + 4 + 4 + 4) e else (w 37 0))) 661 0 (fun _ => if (w 661 0 0) ≤ 720 then (w 661 0 0) + 4 + 4 + 4 + 4 + 4 else (w 661 0 0))), z)
set_option maxHeartbeats 4000000 in
set_option maxRecDepth 100000 in
theorem c_X11_feed (E : En) (hE : q_ok E) (w : Wi) (z : Wj) (a : Int32) (b : Int32) (c : Int32) (d : Int32) (e : Int32) (h1 : 0 ≤ (w 661 0 0)) (h2 : (w 661 0 0) ≤ 740) : CtI M_X11_feed E [.ref (E.ad 11 0), .int a, .int b, .int c, .int d, .int e] w z (P_X11_feed w z a b c d e) := by
  refine ctI_of (lv := [(0, .ref (E.ad 11 0)), (1, .int a), (2, .int b), (3, .int c), (4, .int d), (5, .int e)]) hE m_X11_feed (Nat.le_of_ble_eq_true rfl) rfl ?_
  intro K A C0
  have C : Cx K E A cX11_feed 6 RX11 (some .int) { frames := 1, cells := 0, slots := 0, locals := 22 } := C0
  clear C0
  have hL14 : ((w 661 0 0) ≤ 720) → V K E A 6 (QI K E A (P_X11_feed w z a b c d e)) 14 [(0, .ref (E.ad 11 0)), (1, .int a), (2, .int b), (3, .int c), (4, .int d), (5, .int e)] [] w z := by
    intro  hinv
    have g9 := hinv
    obtain ⟨⟨f1, f2⟩, ⟨f3, f4⟩, ⟨f5, f6⟩, ⟨f7, f8⟩, ⟨f9, f10⟩, ⟨f11, f12⟩⟩ := feed_f h1 g9
    refine v_aload_n C 0 dX11_feed_14 rfl ?_
    refine v_gR C 11 0 0 7 0 (C_m C (u_11 0 (by decide))) k_11 (by decide) x_500 (fun _ _ _ => rfl) dX11_feed_15 ?_
    refine v_iload_n C 1 dX11_feed_18 rfl ?_
    refine v_vV C 7 0 [.int a] 1 (c_X7_putNumber E hE _ _  a  (by clear C; exact f1) (by clear C; exact f4) (by clear C; exact f2)) m_X7_putNumber x_548 x_549 x_550 p_X7_putNumber rfl ⟨Nat.le_of_ble_eq_true rfl, Nat.le_of_ble_eq_true rfl⟩ (C_m C (u_7 0 (by decide))) k_7 rfl (Nat.le_of_ble_eq_true rfl) dX11_feed_19 (fun u1 v1 hp1 => ?_)
    have hu1 := hp1
    cases hu1
    refine v_aload_n C 0 dX11_feed_22 rfl ?_
    refine v_gR C 11 0 0 7 0 (C_m C (u_11 0 (by decide))) k_11 (by decide) x_500 (fun _ _ _ => rfl) dX11_feed_23 ?_
    refine v_iload_n C 2 dX11_feed_26 rfl ?_
    refine v_vV C 7 0 [.int b] 1 (c_X7_putNumber E hE _ _  b  (by clear C; (try simp only [wS_s, wS_t, wS_a, ne_eq, Nat.reduceEqDiff, not_false_eq_true]); exact f3) (by clear C; (try simp only [wS_s, wS_t, wS_a, ne_eq, Nat.reduceEqDiff, not_false_eq_true]); exact f6) (by clear C; (try simp only [wS_s, wS_t, wS_a, ne_eq, Nat.reduceEqDiff, not_false_eq_true]); exact f4)) m_X7_putNumber x_548 x_549 x_550 p_X7_putNumber rfl ⟨Nat.le_of_ble_eq_true rfl, Nat.le_of_ble_eq_true rfl⟩ (C_m C (u_7 0 (by decide))) k_7 rfl (Nat.le_of_ble_eq_true rfl) dX11_feed_27 (fun u2 v2 hp2 => ?_)
    have hu2 := hp2
    cases hu2
    refine v_w (w2 := (wS (wS w 37 0 (put4 (put4 (w 37 0) (w 661 0 0) a) ((w 661 0 0) + 4) b)) 661 0 (fun _ => ((w 661 0 0) + 4) + 4))) (by simp only [wS_s, wS_t, wS_a, ne_eq, Nat.reduceEqDiff, not_false_eq_true, wS_wS, wS_p, wS_pp, Nat.reduceLT, id_eq]) ?_
    refine v_aload_n C 0 dX11_feed_30 rfl ?_
    refine v_gR C 11 0 0 7 0 (C_m C (u_11 0 (by decide))) k_11 (by decide) x_500 (fun _ _ _ => rfl) dX11_feed_31 ?_
    refine v_iload_n C 3 dX11_feed_34 rfl ?_
    refine v_vV C 7 0 [.int c] 1 (c_X7_putNumber E hE _ _  c  (by clear C; (try simp only [wS_s, wS_t, wS_a, ne_eq, Nat.reduceEqDiff, not_false_eq_true]); exact f5) (by clear C; (try simp only [wS_s, wS_t, wS_a, ne_eq, Nat.reduceEqDiff, not_false_eq_true]); exact f8) (by clear C; (try simp only [wS_s, wS_t, wS_a, ne_eq, Nat.reduceEqDiff, not_false_eq_true]); exact f6)) m_X7_putNumber x_548 x_549 x_550 p_X7_putNumber rfl ⟨Nat.le_of_ble_eq_true rfl, Nat.le_of_ble_eq_true rfl⟩ (C_m C (u_7 0 (by decide))) k_7 rfl (Nat.le_of_ble_eq_true rfl) dX11_feed_35 (fun u3 v3 hp3 => ?_)
    have hu3 := hp3
    cases hu3
    refine v_w (w2 := (wS (wS w 37 0 (put4 (put4 (put4 (w 37 0) (w 661 0 0) a) ((w 661 0 0) + 4) b) (((w 661 0 0) + 4) + 4) c)) 661 0 (fun _ => (((w 661 0 0) + 4) + 4) + 4))) (by simp only [wS_s, wS_t, wS_a, ne_eq, Nat.reduceEqDiff, not_false_eq_true, wS_wS, wS_p, wS_pp, Nat.reduceLT, id_eq]) ?_
    refine v_aload_n C 0 dX11_feed_38 rfl ?_
    refine v_gR C 11 0 0 7 0 (C_m C (u_11 0 (by decide))) k_11 (by decide) x_500 (fun _ _ _ => rfl) dX11_feed_39 ?_
    refine v_iload C 4 dX11_feed_42 rfl ?_
    refine v_vV C 7 0 [.int d] 1 (c_X7_putNumber E hE _ _  d  (by clear C; (try simp only [wS_s, wS_t, wS_a, ne_eq, Nat.reduceEqDiff, not_false_eq_true]); exact f7) (by clear C; (try simp only [wS_s, wS_t, wS_a, ne_eq, Nat.reduceEqDiff, not_false_eq_true]); exact f10) (by clear C; (try simp only [wS_s, wS_t, wS_a, ne_eq, Nat.reduceEqDiff, not_false_eq_true]); exact f8)) m_X7_putNumber x_548 x_549 x_550 p_X7_putNumber rfl ⟨Nat.le_of_ble_eq_true rfl, Nat.le_of_ble_eq_true rfl⟩ (C_m C (u_7 0 (by decide))) k_7 rfl (Nat.le_of_ble_eq_true rfl) dX11_feed_44 (fun u4 v4 hp4 => ?_)
    have hu4 := hp4
    cases hu4
    refine v_w (w2 := (wS (wS w 37 0 (put4 (put4 (put4 (put4 (w 37 0) (w 661 0 0) a) ((w 661 0 0) + 4) b) (((w 661 0 0) + 4) + 4) c) ((((w 661 0 0) + 4) + 4) + 4) d)) 661 0 (fun _ => ((((w 661 0 0) + 4) + 4) + 4) + 4))) (by simp only [wS_s, wS_t, wS_a, ne_eq, Nat.reduceEqDiff, not_false_eq_true, wS_wS, wS_p, wS_pp, Nat.reduceLT, id_eq]) ?_
    refine v_aload_n C 0 dX11_feed_47 rfl ?_
    refine v_gR C 11 0 0 7 0 (C_m C (u_11 0 (by decide))) k_11 (by decide) x_500 (fun _ _ _ => rfl) dX11_feed_48 ?_
    refine v_iload C 5 dX11_feed_51 rfl ?_
    refine v_vV C 7 0 [.int e] 1 (c_X7_putNumber E hE _ _  e  (by clear C; (try simp only [wS_s, wS_t, wS_a, ne_eq, Nat.reduceEqDiff, not_false_eq_true]); exact f9) (by clear C; (try simp only [wS_s, wS_t, wS_a, ne_eq, Nat.reduceEqDiff, not_false_eq_true]); exact f12) (by clear C; (try simp only [wS_s, wS_t, wS_a, ne_eq, Nat.reduceEqDiff, not_false_eq_true]); exact f10)) m_X7_putNumber x_548 x_549 x_550 p_X7_putNumber rfl ⟨Nat.le_of_ble_eq_true rfl, Nat.le_of_ble_eq_true rfl⟩ (C_m C (u_7 0 (by decide))) k_7 rfl (Nat.le_of_ble_eq_true rfl) dX11_feed_53 (fun u5 v5 hp5 => ?_)
    have hu5 := hp5
    cases hu5
    refine v_w (w2 := (wS (wS w 37 0 (put4 (put4 (put4 (put4 (put4 (w 37 0) (w 661 0 0) a) ((w 661 0 0) + 4) b) (((w 661 0 0) + 4) + 4) c) ((((w 661 0 0) + 4) + 4) + 4) d) (((((w 661 0 0) + 4) + 4) + 4) + 4) e)) 661 0 (fun _ => (((((w 661 0 0) + 4) + 4) + 4) + 4) + 4))) (by simp only [wS_s, wS_t, wS_a, ne_eq, Nat.reduceEqDiff, not_false_eq_true, wS_wS, wS_p, wS_pp, Nat.reduceLT, id_eq]) ?_
    refine v_aload_n C 0 dX11_feed_56 rfl ?_
    refine v_gR C 11 0 0 7 0 (C_m C (u_11 0 (by decide))) k_11 (by decide) x_500 (fun _ _ _ => rfl) dX11_feed_57 ?_
    refine v_gI C 7 0 1 661 ((((((w 661 0 0) + 4) + 4) + 4) + 4) + 4) (C_m C (u_7 0 (by decide))) k_7 (by decide) rfl rfl x_116 (by simp only [wS_s, wS_t, wS_a, ne_eq, Nat.reduceEqDiff, not_false_eq_true]) dX11_feed_60 ?_
    exact v_iret C dX11_feed_63 ⟨(by clear C; first | (rw [if_pos g9]; done) | (split at c_9; exact absurd c_9 (by decide); rw [if_neg (fun q => absurd ((feed_le h1 h2).mpr q) (by assumption))])), (congr (congrArg Prod.mk (wS_eq (wS_eq rfl (by clear C; first | (rw [if_pos g9]; done) | (split at c_9; exact absurd c_9 (by decide); rw [if_neg (fun q => absurd ((feed_le h1 h2).mpr q) (by assumption))]))) (fu_eq (by clear C; first | (rw [if_pos g9]; done) | (split at c_9; exact absurd c_9 (by decide); rw [if_neg (fun q => absurd ((feed_le h1 h2).mpr q) (by assumption))]))))) rfl)⟩
  refine v_aload_n C 0 dX11_feed_0 rfl ?_
  refine v_gR C 11 0 0 7 0 (C_m C (u_11 0 (by decide))) k_11 (by decide) x_500 (fun _ _ _ => rfl) dX11_feed_1 ?_
  refine v_bipush (v := 20) C dX11_feed_4 (by decide) ?_
  refine v_vI C 7 0 [.int 20] 1 (c_X7_hasRoom E hE _ _  20  ) m_X7_hasRoom x_544 x_545 x_546 p_X7_hasRoom rfl ⟨Nat.le_of_ble_eq_true rfl, Nat.le_of_ble_eq_true rfl⟩ (C_m C (u_7 0 (by decide))) k_7 rfl (Nat.le_of_ble_eq_true rfl) dX11_feed_6 (fun r6 u6 v6 hp6 => ?_)
  obtain ⟨hr6, hu6⟩ := hp6
  subst hr6
  cases hu6
  refine v_if_ne C 14 dX11_feed_9 (by decide) (fun c_9 => ?_) (fun c_9 => ?_)
  · exact hL14  (by clear C hL14; split at c_9; (exact (feed_le h1 h2).mp (by assumption)); exact absurd rfl c_9)
  · refine v_iconst (v := (-1)) C dX11_feed_12 (by decide) ?_
    refine v_w (wS_id _ 37 0).symm ?_
    refine v_tS C 661 0 (by decide) ?_
    refine v_w (w2 := (wS (wS w 37 0 (w 37 0)) 661 0 (fun _ => (w 661 0 0)))) (by simp only [wS_s, wS_t, wS_a, ne_eq, Nat.reduceEqDiff, not_false_eq_true, wS_wS, wS_p, wS_pp, Nat.reduceLT, id_eq]) ?_
    exact v_iret C dX11_feed_13 ⟨(by clear C hL14; first | (rw [if_pos g9]; done) | (split at c_9; exact absurd c_9 (by decide); rw [if_neg (fun q => absurd ((feed_le h1 h2).mpr q) (by assumption))])), (congr (congrArg Prod.mk (wS_eq (wS_eq rfl (by clear C hL14; first | (rw [if_pos g9]; done) | (split at c_9; exact absurd c_9 (by decide); rw [if_neg (fun q => absurd ((feed_le h1 h2).mpr q) (by assumption))]))) (fu_eq (by clear C hL14; first | (rw [if_pos g9]; done) | (split at c_9; exact absurd c_9 (by decide); rw [if_neg (fun q => absurd ((feed_le h1 h2).mpr q) (by assumption))]))))) rfl)⟩
