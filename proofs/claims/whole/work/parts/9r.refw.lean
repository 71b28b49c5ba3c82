abbrev P_X12_feed (w : Wi) (z : Wj) (a : Int32) (b : Int32) (c : Int32) (d : Int32) (e : Int32) : Int32 → WW → Prop := fun r_ u_ => r_ = (if (w 1062 0 0) ≤ 720 then (w 1062 0 0) + 4 + 4 + 4 + 4 + 4 else (-1)) ∧ u_ = ((wS (wS (wS w 41 0 (if (w 1062 0 0) ≤ 720 then put4G (put4G (put4G (put4G (put4G (w 41 0) (w 1062 0 0) a) ((w 1062 0 0) + 4) b) ((w 1062 0 0) + 4 + 4) c) ((w 1062 0 0) + 4 + 4 + 4) d) ((w 1062 0 0) + 4 + 4 + 4 + 4) e else (w 41 0))) 1060 0 (fun _ => 0)) 1062 0 (fun _ => if (w 1062 0 0) ≤ 720 then (w 1062 0 0) + 4 + 4 + 4 + 4 + 4 else (w 1062 0 0))), z)
set_option maxHeartbeats 4000000 in
set_option maxRecDepth 100000 in
theorem c_X12_feed (E : En) (hM : q_okM E) (w : Wi) (z : Wj) (a : Int32) (b : Int32) (c : Int32) (d : Int32) (e : Int32) (h1 : 0 ≤ (w 1062 0 0)) (h2 : (w 1062 0 0) ≤ 740) : CtI M_X12_feed E [.ref (E.ad 12 0), .int a, .int b, .int c, .int d, .int e] w z (P_X12_feed w z a b c d e) := by
  have hE := hM.1
  refine ctI_of (lv := [(0, .ref (E.ad 12 0)), (1, .int a), (2, .int b), (3, .int c), (4, .int d), (5, .int e)]) hE m_X12_feed (Nat.le_of_ble_eq_true rfl) rfl ?_
  intro K A C0
  have C : Cx K E A cX12_feed 6 RX12 (some .int) { frames := 1, cells := 0, slots := 0, locals := 22 } := C0
  clear C0
  refine v_aload_n C 0 dX12_feed_0 rfl ?_
  refine v_iconst (v := 0) C dX12_feed_1 (by decide) ?_
  refine v_pI C 12 0 0 1060 (hM.2 _ (u_12 0 (by decide))) k_12 ty_12 (by decide) rfl ⟨rfl, rfl⟩ x_1242 rfl rfl dX12_feed_2 ?_
  have hL20 : ((w 1062 0 0) ≤ 720) → V K E A 6 (QI K E A (P_X12_feed w z a b c d e)) 20 [(0, .ref (E.ad 12 0)), (1, .int a), (2, .int b), (3, .int c), (4, .int d), (5, .int e)] [] (wS w 1060 0 (fun _ => 0)) z := by
    intro  hinv
    have g9 := hinv
    obtain ⟨⟨f1, f2⟩, ⟨f3, f4⟩, ⟨f5, f6⟩, ⟨f7, f8⟩, ⟨f9, f10⟩, ⟨f11, f12⟩⟩ := feed_f h1 g9
    refine v_aload_n C 0 dX12_feed_20 rfl ?_
    refine v_iload_n C 1 dX12_feed_21 rfl ?_
    refine v_vV C 12 0 [.int a] 1 (c_X12_come E hM _ _  a  (by clear C; (try simp only [wS_s, wS_t, wS_a, ne_eq, Nat.reduceEqDiff, not_false_eq_true, L7_1]); exact f1) (by clear C; (try simp only [wS_s, wS_t, wS_a, ne_eq, Nat.reduceEqDiff, not_false_eq_true, L7_1]); exact f4) (by clear C; (try simp only [wS_s, wS_t, wS_a, ne_eq, Nat.reduceEqDiff, not_false_eq_true, L7_1]); exact f2)) m_X12_come x_1467 x_1469 x_35 p_X12_come rfl ⟨Nat.le_of_ble_eq_true rfl, Nat.le_of_ble_eq_true rfl⟩ (hM.2 _ (u_12 0 (by decide))) k_12 rfl (Nat.le_of_ble_eq_true rfl) dX12_feed_22 (fun u1 v1 hp1 => ?_)
    have hu1 := hp1
    cases hu1
    refine v_w (w2 := (wS (wS (wS w 41 0 (put4G (w 41 0) (w 1062 0 0) a)) 1060 0 (fun _ => 0)) 1062 0 (fun _ => (w 1062 0 0) + 4))) (by simp only [wS_s, wS_t, wS_a, ne_eq, Nat.reduceEqDiff, not_false_eq_true, wS_wS, wS_p, wS_pp, Nat.reduceLT, id_eq, L7_1]) ?_
    refine v_aload_n C 0 dX12_feed_25 rfl ?_
    refine v_iload_n C 2 dX12_feed_26 rfl ?_
    refine v_vV C 12 0 [.int b] 1 (c_X12_come E hM _ _  b  (by clear C; (try simp only [wS_s, wS_t, wS_a, ne_eq, Nat.reduceEqDiff, not_false_eq_true, L7_1]); exact f3) (by clear C; (try simp only [wS_s, wS_t, wS_a, ne_eq, Nat.reduceEqDiff, not_false_eq_true, L7_1]); exact f6) (by clear C; (try simp only [wS_s, wS_t, wS_a, ne_eq, Nat.reduceEqDiff, not_false_eq_true, L7_1]); exact f4)) m_X12_come x_1467 x_1469 x_35 p_X12_come rfl ⟨Nat.le_of_ble_eq_true rfl, Nat.le_of_ble_eq_true rfl⟩ (hM.2 _ (u_12 0 (by decide))) k_12 rfl (Nat.le_of_ble_eq_true rfl) dX12_feed_27 (fun u2 v2 hp2 => ?_)
    have hu2 := hp2
    cases hu2
    refine v_w (w2 := (wS (wS (wS w 41 0 (put4G (put4G (w 41 0) (w 1062 0 0) a) ((w 1062 0 0) + 4) b)) 1060 0 (fun _ => 0)) 1062 0 (fun _ => ((w 1062 0 0) + 4) + 4))) (by simp only [wS_s, wS_t, wS_a, ne_eq, Nat.reduceEqDiff, not_false_eq_true, wS_wS, wS_p, wS_pp, Nat.reduceLT, id_eq, L7_1]) ?_
    refine v_aload_n C 0 dX12_feed_30 rfl ?_
    refine v_iload_n C 3 dX12_feed_31 rfl ?_
    refine v_vV C 12 0 [.int c] 1 (c_X12_come E hM _ _  c  (by clear C; (try simp only [wS_s, wS_t, wS_a, ne_eq, Nat.reduceEqDiff, not_false_eq_true, L7_1]); exact f5) (by clear C; (try simp only [wS_s, wS_t, wS_a, ne_eq, Nat.reduceEqDiff, not_false_eq_true, L7_1]); exact f8) (by clear C; (try simp only [wS_s, wS_t, wS_a, ne_eq, Nat.reduceEqDiff, not_false_eq_true, L7_1]); exact f6)) m_X12_come x_1467 x_1469 x_35 p_X12_come rfl ⟨Nat.le_of_ble_eq_true rfl, Nat.le_of_ble_eq_true rfl⟩ (hM.2 _ (u_12 0 (by decide))) k_12 rfl (Nat.le_of_ble_eq_true rfl) dX12_feed_32 (fun u3 v3 hp3 => ?_)
    have hu3 := hp3
    cases hu3
    refine v_w (w2 := (wS (wS (wS w 41 0 (put4G (put4G (put4G (w 41 0) (w 1062 0 0) a) ((w 1062 0 0) + 4) b) (((w 1062 0 0) + 4) + 4) c)) 1060 0 (fun _ => 0)) 1062 0 (fun _ => (((w 1062 0 0) + 4) + 4) + 4))) (by simp only [wS_s, wS_t, wS_a, ne_eq, Nat.reduceEqDiff, not_false_eq_true, wS_wS, wS_p, wS_pp, Nat.reduceLT, id_eq, L7_1]) ?_
    refine v_aload_n C 0 dX12_feed_35 rfl ?_
    refine v_iload C 4 dX12_feed_36 rfl ?_
    refine v_vV C 12 0 [.int d] 1 (c_X12_come E hM _ _  d  (by clear C; (try simp only [wS_s, wS_t, wS_a, ne_eq, Nat.reduceEqDiff, not_false_eq_true, L7_1]); exact f7) (by clear C; (try simp only [wS_s, wS_t, wS_a, ne_eq, Nat.reduceEqDiff, not_false_eq_true, L7_1]); exact f10) (by clear C; (try simp only [wS_s, wS_t, wS_a, ne_eq, Nat.reduceEqDiff, not_false_eq_true, L7_1]); exact f8)) m_X12_come x_1467 x_1469 x_35 p_X12_come rfl ⟨Nat.le_of_ble_eq_true rfl, Nat.le_of_ble_eq_true rfl⟩ (hM.2 _ (u_12 0 (by decide))) k_12 rfl (Nat.le_of_ble_eq_true rfl) dX12_feed_38 (fun u4 v4 hp4 => ?_)
    have hu4 := hp4
    cases hu4
    refine v_w (w2 := (wS (wS (wS w 41 0 (put4G (put4G (put4G (put4G (w 41 0) (w 1062 0 0) a) ((w 1062 0 0) + 4) b) (((w 1062 0 0) + 4) + 4) c) ((((w 1062 0 0) + 4) + 4) + 4) d)) 1060 0 (fun _ => 0)) 1062 0 (fun _ => ((((w 1062 0 0) + 4) + 4) + 4) + 4))) (by simp only [wS_s, wS_t, wS_a, ne_eq, Nat.reduceEqDiff, not_false_eq_true, wS_wS, wS_p, wS_pp, Nat.reduceLT, id_eq, L7_1]) ?_
    refine v_aload_n C 0 dX12_feed_41 rfl ?_
    refine v_iload C 5 dX12_feed_42 rfl ?_
    refine v_vV C 12 0 [.int e] 1 (c_X12_come E hM _ _  e  (by clear C; (try simp only [wS_s, wS_t, wS_a, ne_eq, Nat.reduceEqDiff, not_false_eq_true, L7_1]); exact f9) (by clear C; (try simp only [wS_s, wS_t, wS_a, ne_eq, Nat.reduceEqDiff, not_false_eq_true, L7_1]); exact f12) (by clear C; (try simp only [wS_s, wS_t, wS_a, ne_eq, Nat.reduceEqDiff, not_false_eq_true, L7_1]); exact f10)) m_X12_come x_1467 x_1469 x_35 p_X12_come rfl ⟨Nat.le_of_ble_eq_true rfl, Nat.le_of_ble_eq_true rfl⟩ (hM.2 _ (u_12 0 (by decide))) k_12 rfl (Nat.le_of_ble_eq_true rfl) dX12_feed_44 (fun u5 v5 hp5 => ?_)
    have hu5 := hp5
    cases hu5
    refine v_w (w2 := (wS (wS (wS w 41 0 (put4G (put4G (put4G (put4G (put4G (w 41 0) (w 1062 0 0) a) ((w 1062 0 0) + 4) b) (((w 1062 0 0) + 4) + 4) c) ((((w 1062 0 0) + 4) + 4) + 4) d) (((((w 1062 0 0) + 4) + 4) + 4) + 4) e)) 1060 0 (fun _ => 0)) 1062 0 (fun _ => (((((w 1062 0 0) + 4) + 4) + 4) + 4) + 4))) (by simp only [wS_s, wS_t, wS_a, ne_eq, Nat.reduceEqDiff, not_false_eq_true, wS_wS, wS_p, wS_pp, Nat.reduceLT, id_eq, L7_1]) ?_
    refine v_aload_n C 0 dX12_feed_47 rfl ?_
    refine v_gI C 12 0 2 1062 ((((((w 1062 0 0) + 4) + 4) + 4) + 4) + 4) (hM.2 _ (u_12 0 (by decide))) k_12 (by decide) rfl rfl x_1244 (by simp only [wS_s, wS_t, wS_a, ne_eq, Nat.reduceEqDiff, not_false_eq_true, L7_1]) dX12_feed_48 ?_
    exact v_iret C dX12_feed_51 ⟨(by clear C; first | rfl | (rw [if_pos g9]; done) | (rw [if_neg (fun q => absurd ((feed_le h1 h2).mpr q) (by assumption))]; done)), (congr (congrArg Prod.mk (wS_eq (wS_eq (wS_eq rfl (by clear C; first | rfl | (rw [if_pos g9]; done) | (rw [if_neg (fun q => absurd ((feed_le h1 h2).mpr q) (by assumption))]; done))) rfl) (fu_eq (by clear C; first | rfl | (rw [if_pos g9]; done) | (rw [if_neg (fun q => absurd ((feed_le h1 h2).mpr q) (by assumption))]; done))))) rfl)⟩
  refine v_aload_n C 0 dX12_feed_5 rfl ?_
  refine v_gI C 12 0 2 1062 (w 1062 0 0) (hM.2 _ (u_12 0 (by decide))) k_12 (by decide) rfl rfl x_1244 (by simp only [wS_s, wS_t, wS_a, ne_eq, Nat.reduceEqDiff, not_false_eq_true, L7_1]) dX12_feed_6 ?_
  refine v_bipush (v := 20) C dX12_feed_9 (by decide) ?_
  refine v_iadd C dX12_feed_11 ?_
  refine v_sipush (v := 740) C dX12_feed_12 (by decide) ?_
  refine v_ic_le C 20 dX12_feed_15 (by decide) (fun c_15 => ?_) (fun c_15 => ?_)
  · exact hL20  (by clear C hL20; exact (feed_le h1 h2).mp (by assumption))
  · refine v_iconst (v := (-1)) C dX12_feed_18 (by decide) ?_
    refine v_w (wS_id _ 41 0).symm ?_
    refine v_tS C 1062 0 (by decide) ?_
    refine v_w (w2 := (wS (wS (wS w 41 0 (w 41 0)) 1060 0 (fun _ => 0)) 1062 0 (fun _ => (w 1062 0 0)))) (by simp only [wS_s, wS_t, wS_a, ne_eq, Nat.reduceEqDiff, not_false_eq_true, wS_wS, wS_p, wS_pp, Nat.reduceLT, id_eq, L7_1]) ?_
    exact v_iret C dX12_feed_19 ⟨(by clear C hL20; first | rfl | (rw [if_pos g9]; done) | (rw [if_neg (fun q => absurd ((feed_le h1 h2).mpr q) (by assumption))]; done)), (congr (congrArg Prod.mk (wS_eq (wS_eq (wS_eq rfl (by clear C hL20; first | rfl | (rw [if_pos g9]; done) | (rw [if_neg (fun q => absurd ((feed_le h1 h2).mpr q) (by assumption))]; done))) rfl) (fu_eq (by clear C hL20; first | rfl | (rw [if_pos g9]; done) | (rw [if_neg (fun q => absurd ((feed_le h1 h2).mpr q) (by assumption))]; done))))) rfl)⟩
abbrev P_X12_car (w : Wi) (z : Wj) (c : Int32) (wh : Int32) : Int32 → WW → Prop := fun r_ u_ => r_ = (if ((1 ≤ c ∧ c ≤ (w 1074 0 0)) ∧ 0 ≤ wh ∧ wh ≤ 6) then (L7 (w 42 0) (w 1080 0 0)) (32 * wh + c - 1).toNatClampNeg else 0) ∧ u_ = ((wS (wS (wS w 42 0 (L7 (w 42 0) (w 1080 0 0))) 1060 0 (fun _ => if ((1 ≤ c ∧ c ≤ (w 1074 0 0)) ∧ 0 ≤ wh ∧ wh ≤ 6) then 0 else 1)) 1080 0 (fun _ => 1)), z)
set_option maxHeartbeats 4000000 in
set_option maxRecDepth 100000 in
theorem c_X12_car (E : En) (hM : q_okM E) (w : Wi) (z : Wj) (c : Int32) (wh : Int32) (h1 : 1 ≤ (w 1074 0 0)) (h2 : (w 1074 0 0) ≤ 16) (h0 : (w 1080 0 0) = 0 ∨ (w 1080 0 0) = 1) : CtI M_X12_car E [.ref (E.ad 12 0), .int c, .int wh] w z (P_X12_car w z c wh) := by
  have hE := hM.1
  refine ctI_of (lv := [(0, .ref (E.ad 12 0)), (1, .int c), (2, .int wh)]) hE m_X12_car (Nat.le_of_ble_eq_true rfl) rfl ?_
  intro K A C0
  have C : Cx K E A cX12_car 3 RX12 (some .int) { frames := 1, cells := 0, slots := 0, locals := 22 } := C0
  clear C0
  refine v_aload_n C 0 dX12_car_0 rfl ?_
  refine v_vV C 12 0 [] 0 (c_X12_lay E hM _ _    (by clear C; exact h0)) m_X12_lay x_1479 x_1481 x_36 p_X12_lay rfl ⟨Nat.le_of_ble_eq_true rfl, Nat.le_of_ble_eq_true rfl⟩ (hM.2 _ (u_12 0 (by decide))) k_12 rfl (Nat.le_of_ble_eq_true rfl) dX12_car_1 (fun u1 v1 hp1 => ?_)
  have hu1 := hp1
  cases hu1
  refine v_iload_n C 1 dX12_car_4 rfl ?_
  refine v_iconst (v := 1) C dX12_car_5 (by decide) ?_
  refine v_aload_n C 0 dX12_car_6 rfl ?_
  refine v_gI C 12 0 14 1074 (w 1074 0 0) (hM.2 _ (u_12 0 (by decide))) k_12 (by decide) rfl rfl x_1256 (by simp only [wS_s, wS_t, wS_a, ne_eq, Nat.reduceEqDiff, not_false_eq_true, L7_1]) dX12_car_7 ?_
  refine v_sI C [.int c, .int 1, .int (w 1074 0 0)] 3 (c_X12_isIn E hM _ _  c 1 (w 1074 0 0)  ) m_X12_isIn x_1530 x_1531 p_X12_isIn rfl ⟨Nat.le_of_ble_eq_true rfl, Nat.le_of_ble_eq_true rfl⟩ rfl (Nat.le_of_ble_eq_true rfl) dX12_car_10 (fun r2 u2 v2 hp2 => ?_)
  obtain ⟨hr2, hu2⟩ := hp2
  subst hr2
  cases hu2
  refine v_if_eq C 26 dX12_car_13 (by decide) (fun c_13 => ?_) (fun c_13 => ?_)
  · refine v_aload_n C 0 dX12_car_26 rfl ?_
    refine v_vI C 12 0 [] 0 (c_X12_refuse E hM _ _    ) m_X12_refuse x_1569 x_1571 x_52 p_X12_refuse rfl ⟨Nat.le_of_ble_eq_true rfl, Nat.le_of_ble_eq_true rfl⟩ (hM.2 _ (u_12 0 (by decide))) k_12 rfl (Nat.le_of_ble_eq_true rfl) dX12_car_27 (fun r3 u3 v3 hp3 => ?_)
    obtain ⟨hr3, hu3⟩ := hp3
    subst hr3
    cases hu3
    refine v_w (w2 := (wS (wS (wS w 42 0 (L7 (w 42 0) (w 1080 0 0))) 1060 0 (fun _ => 1)) 1080 0 (fun _ => 1))) (by simp only [wS_s, wS_t, wS_a, ne_eq, Nat.reduceEqDiff, not_false_eq_true, wS_wS, wS_p, wS_pp, Nat.reduceLT, id_eq, L7_1]) ?_
    exact v_iret C dX12_car_30 ⟨(by clear C; first | rfl | (rw [if_pos (by grind)]; done) | (rw [if_neg (by grind)]; done)), (congr (congrArg Prod.mk (wS_eq (wS_eq (wS_eq rfl rfl) (fu_eq (by clear C; first | rfl | (rw [if_pos (by grind)]; done) | (rw [if_neg (by grind)]; done)))) rfl)) rfl)⟩
  · refine v_iload_n C 2 dX12_car_16 rfl ?_
    refine v_iconst (v := 0) C dX12_car_17 (by decide) ?_
    refine v_bipush (v := 6) C dX12_car_18 (by decide) ?_
    refine v_sI C [.int wh, .int 0, .int 6] 3 (c_X12_isIn E hM _ _  wh 0 6  ) m_X12_isIn x_1530 x_1531 p_X12_isIn rfl ⟨Nat.le_of_ble_eq_true rfl, Nat.le_of_ble_eq_true rfl⟩ rfl (Nat.le_of_ble_eq_true rfl) dX12_car_20 (fun r4 u4 v4 hp4 => ?_)
    obtain ⟨hr4, hu4⟩ := hp4
    subst hr4
    cases hu4
    refine v_if_ne C 31 dX12_car_23 (by decide) (fun c_23 => ?_) (fun c_23 => ?_)
    · refine v_aload_n C 0 dX12_car_31 rfl ?_
      refine v_iconst (v := 0) C dX12_car_32 (by decide) ?_
      refine v_pI C 12 0 0 1060 (hM.2 _ (u_12 0 (by decide))) k_12 ty_12 (by decide) rfl ⟨rfl, rfl⟩ x_1242 rfl rfl dX12_car_33 ?_
      refine v_aload_n C 0 dX12_car_36 rfl ?_
      refine v_gR C 12 0 13 42 0 (hM.2 _ (u_12 0 (by decide))) k_12 (by decide) x_1255 (fun _ _ _ => rfl) dX12_car_37 ?_
      refine v_bipush (v := 32) C dX12_car_40 (by decide) ?_
      refine v_iload_n C 2 dX12_car_42 rfl ?_
      refine v_imul C dX12_car_43 ?_
      refine v_iload_n C 1 dX12_car_44 rfl ?_
      refine v_iadd C dX12_car_45 ?_
      refine v_iconst (v := 1) C dX12_car_46 (by decide) ?_
      refine v_isub C dX12_car_47 ?_
      refine v_iald C 42 0 (hM.2 _ (u_42 0 (by decide))) ⟨by decide, rfl, rfl⟩ (by exact v_in (N := 224) (by decide) (by grind) (by grind)) dX12_car_48 ?_
      refine v_i (y := ((L7 (w 42 0) (w 1080 0 0)) (((32 * wh) + c) - 1).toNatClampNeg)) (by simp only [wS_s, wS_t, wS_a, ne_eq, Nat.reduceEqDiff, not_false_eq_true, L7_1]) ?_
      refine v_w (w2 := (wS (wS (wS w 42 0 (L7 (w 42 0) (w 1080 0 0))) 1060 0 (fun _ => 0)) 1080 0 (fun _ => 1))) (by simp only [wS_s, wS_t, wS_a, ne_eq, Nat.reduceEqDiff, not_false_eq_true, wS_wS, wS_p, wS_pp, Nat.reduceLT, id_eq, L7_1]) ?_
      exact v_iret C dX12_car_49 ⟨(by clear C; first | rfl | (rw [if_pos (by grind)]; done) | (rw [if_neg (by grind)]; done)), (congr (congrArg Prod.mk (wS_eq (wS_eq (wS_eq rfl rfl) (fu_eq (by clear C; first | rfl | (rw [if_pos (by grind)]; done) | (rw [if_neg (by grind)]; done)))) rfl)) rfl)⟩
    · refine v_aload_n C 0 dX12_car_26 rfl ?_
      refine v_vI C 12 0 [] 0 (c_X12_refuse E hM _ _    ) m_X12_refuse x_1569 x_1571 x_52 p_X12_refuse rfl ⟨Nat.le_of_ble_eq_true rfl, Nat.le_of_ble_eq_true rfl⟩ (hM.2 _ (u_12 0 (by decide))) k_12 rfl (Nat.le_of_ble_eq_true rfl) dX12_car_27 (fun r5 u5 v5 hp5 => ?_)
      obtain ⟨hr5, hu5⟩ := hp5
      subst hr5
      cases hu5
      refine v_w (w2 := (wS (wS (wS w 42 0 (L7 (w 42 0) (w 1080 0 0))) 1060 0 (fun _ => 1)) 1080 0 (fun _ => 1))) (by simp only [wS_s, wS_t, wS_a, ne_eq, Nat.reduceEqDiff, not_false_eq_true, wS_wS, wS_p, wS_pp, Nat.reduceLT, id_eq, L7_1]) ?_
      exact v_iret C dX12_car_30 ⟨(by clear C; first | rfl | (rw [if_pos (by grind)]; done) | (rw [if_neg (by grind)]; done)), (congr (congrArg Prod.mk (wS_eq (wS_eq (wS_eq rfl rfl) (fu_eq (by clear C; first | rfl | (rw [if_pos (by grind)]; done) | (rw [if_neg (by grind)]; done)))) rfl)) rfl)⟩
