abbrev P_X11_at (w : Wi) (z : Wj) (ti : Int32) (ce : Int32) (wh : Int32) : Int32 → WW → Prop := fun r_ u_ => ∃ (uh_ : Wi), r_ = (atV (itA ((w 500 0 0), (w 501 0 0), (w 502 0 0), (w 30 0), (w 32 0), (w 33 0), (w 34 0), (w 35 0), (w 36 0)) ((w 420 0 0), (w 421 0 0), (w 27 0), (w 28 0), (w 29 0)) (ti).toNatClampNeg (st0 (w 501 0 0))) wh ce) ∧ u_ = ((wB w SCA uh_), z)
set_option maxHeartbeats 4000000 in
set_option maxRecDepth 100000 in
theorem c_X11_at (E : En) (hE : q_ok E) (w : Wi) (z : Wj) (ti : Int32) (ce : Int32) (wh : Int32) (h1 : 0 ≤ (w 500 0 0)) (h2 : (w 500 0 0) ≤ 16) (h3 : 0 ≤ ti) (h4 : ti ≤ 600) (h5 : wh = 0 ∧ (ce = 0 ∨ 1 ≤ ce ∧ ce ≤ (w 500 0 0)) ∨ (wh = 1 ∨ wh = 2) ∧ 1 ≤ ce ∧ ce ≤ (w 500 0 0)) : CtI M_X11_at E [.ref (E.ad 11 0), .int ti, .int ce, .int wh] w z (P_X11_at w z ti ce wh) := by
  refine ctI_of (lv := [(0, .ref (E.ad 11 0)), (1, .int ti), (2, .int ce), (3, .int wh)]) hE m_X11_at (Nat.le_of_ble_eq_true rfl) rfl ?_
  intro K A C0
  have C : Cx K E A cX11_at 6 RX11 (some .int) { frames := 6, cells := 0, slots := 0, locals := 200 } := C0
  clear C0
  have hL53 : ∀ (fd : Int32), (fd = 1) → V K E A 6 (QI K E A (P_X11_at w z ti ce wh)) 53 [(0, .ref (E.ad 11 0)), (1, .int ti), (2, .int ce), (3, .int wh)] [.int fd] w z := by
    intro fd hinv
    have ef := hinv
    have hc : 0 ≤ ce ∧ ce < 17 := by grind
    refine v_istore (lv2 := [(4, .int fd), (0, .ref (E.ad 11 0)), (1, .int ti), (2, .int ce), (3, .int wh)]) C dX11_at_53 (by decide) rfl ?_
    refine v_iload C 0 dX11_at_55 rfl ?_
    refine v_if_eq C 71 dX11_at_57 (by decide) (fun c_57 => absurd c_57 (by clear C; grind)) (fun c_57 => ?_)
    refine v_iload_n C 2 dX11_at_60 rfl ?_
    refine v_if_lt C 71 dX11_at_61 (by decide) (fun c_61 => absurd c_61 (by clear C; grind)) (fun c_61 => ?_)
    refine v_iload_n C 2 dX11_at_64 rfl ?_
    refine v_sipush (v := 600) C dX11_at_65 (by decide) ?_
    refine v_ic_le C 81 dX11_at_68 (by decide) (fun c_68 => ?_) (fun c_68 => absurd c_68 (by clear C; grind))
    refine v_aload_n C 1 dX11_at_81 rfl ?_
    refine v_gR C 11 0 6 0 0 (C_m C (u_11 0 (by decide))) k_11 (by decide) x_506 (fun _ _ _ => rfl) dX11_at_82 ?_
    refine v_aload_n C 1 dX11_at_85 rfl ?_
    refine v_gR C 11 0 4 5 0 (C_m C (u_11 0 (by decide))) k_11 (by decide) x_504 (fun _ _ _ => rfl) dX11_at_86 ?_
    refine v_vV C 0 0 [.ref (E.ad 5 0)] 1 (c_X0_start E hE _ _ 0 (by decide) 0 (by decide)   ) m_X0_start x_787 x_788 x_789 p_X0_start rfl ⟨Nat.le_of_ble_eq_true rfl, Nat.le_of_ble_eq_true rfl⟩ (C_m C (u_0 0 (by decide))) k_0 rfl (Nat.le_of_ble_eq_true rfl) dX11_at_89 (fun u1 v1 hp1 => ?_)
    have hu1 := hp1
    cases hu1
    refine v_iconst (v := 0) C dX11_at_92 (by decide) ?_
    refine v_istore (lv2 := [(5, .int 0), (4, .int fd), (0, .ref (E.ad 11 0)), (1, .int ti), (2, .int ce), (3, .int wh)]) C dX11_at_93 (by decide) rfl ?_
    have hL95 : ∀ (n_ : Nat) (t : Int32) (U : Wi), (700 - t).toNatClampNeg < n_ → (0 ≤ t ∧ t ≤ ti ∧ ∃ S : AS, AE (tA U 0) S ∧ itA ((w 500 0 0), (w 501 0 0), (w 502 0 0), (w 30 0), (w 32 0), (w 33 0), (w 34 0), (w 35 0), (w 36 0)) ((w 420 0 0), (w 421 0 0), (w 27 0), (w 28 0), (w 29 0)) (ti - t).toNatClampNeg S = itA ((w 500 0 0), (w 501 0 0), (w 502 0 0), (w 30 0), (w 32 0), (w 33 0), (w 34 0), (w 35 0), (w 36 0)) ((w 420 0 0), (w 421 0 0), (w 27 0), (w 28 0), (w 29 0)) ti.toNatClampNeg (st0 (w 501 0 0))) → V K E A 6 (QI K E A (P_X11_at w z ti ce wh)) 95 [(5, .int t), (4, .int fd), (0, .ref (E.ad 11 0)), (1, .int ti), (2, .int ce), (3, .int wh)] [] (wB w SCA U) z := by
      intro n_
      induction n_ with
      | zero => intro t U hm_; exact absurd hm_ (Nat.not_lt_zero _)
      | succ n_ ih_95 =>
        intro t U hm_ hinv
        obtain ⟨g1, g2, S, gA, g3⟩ := hinv
        refine v_iload C 0 dX11_at_95 rfl ?_
        refine v_iload_n C 3 dX11_at_97 rfl ?_
        refine v_ic_ge C 122 dX11_at_98 (by decide) (fun c_98 => ?_) (fun c_98 => ?_)
        · refine v_aload_n C 2 dX11_at_122 rfl ?_
          refine v_gR C 11 0 6 0 0 (C_m C (u_11 0 (by decide))) k_11 (by decide) x_506 (fun _ _ _ => rfl) dX11_at_123 ?_
          refine v_iload_n C 4 dX11_at_126 rfl ?_
          refine v_iload_n C 5 dX11_at_127 rfl ?_
          refine v_vI C 0 0 [.int ce, .int wh] 2 (c_X0_measure E hE _ _ 0 (by decide) ce wh  ) m_X0_measure x_826 x_827 x_828 p_X0_measure rfl ⟨Nat.le_of_ble_eq_true rfl, Nat.le_of_ble_eq_true rfl⟩ (C_m C (u_0 0 (by decide))) k_0 rfl (Nat.le_of_ble_eq_true rfl) dX11_at_128 (fun r2 u2 v2 hp2 => ?_)
          obtain ⟨hr2, hu2⟩ := hp2
          subst hr2
          cases hu2
          refine v_i (y := if 0 ≤ ce ∧ ce < 17 then (if wh = 0 then (U 13 0) (ce).toNatClampNeg else if wh = 1 then (U 15 0) (ce).toNatClampNeg else (U 16 0) (ce).toNatClampNeg) else (-1)) (by simp (decide := true) only [wB_o, wB_i, wS_s, wS_t, wS_a, ne_eq, Nat.reduceEqDiff, not_false_eq_true]) ?_
          exact v_iret C dX11_at_131 ⟨_, (by clear C ih_95; rw [← g3, show ti - t = 0 by clear g3 gA; grind, if_pos hc]; have hk := cl_b (c := ce) (by grind); simp only [atV, itA, show (0 : Int32).toNatClampNeg = 0 from rfl]; have e1 := gA.1 _ hk; have e2 := gA.2.1 _ hk; have e3 := gA.2.2.1 _ hk; dsimp only at e1 e2 e3; rw [e1, e2, e3]), (congr (congrArg Prod.mk (kp_e (kp_B (by decide) kp_r))) rfl)⟩
        · refine v_aload_n C 2 dX11_at_101 rfl ?_
          refine v_gR C 11 0 6 0 0 (C_m C (u_11 0 (by decide))) k_11 (by decide) x_506 (fun _ _ _ => rfl) dX11_at_102 ?_
          refine v_aload_n C 2 dX11_at_105 rfl ?_
          refine v_gR C 11 0 4 5 0 (C_m C (u_11 0 (by decide))) k_11 (by decide) x_504 (fun _ _ _ => rfl) dX11_at_106 ?_
          refine v_aload_n C 2 dX11_at_109 rfl ?_
          refine v_gR C 11 0 5 4 0 (C_m C (u_11 0 (by decide))) k_11 (by decide) x_505 (fun _ _ _ => rfl) dX11_at_110 ?_
          refine v_vV C 0 0 [.ref (E.ad 5 0), .ref (E.ad 4 0)] 2 (c_X0_advance E hE _ _ 0 (by decide) 0 (by decide) 0 (by decide)   (by clear C ih_95; (try simp (decide := true) only [wB_o, wB_i, wS_s, wS_t, wS_a, ne_eq, Nat.reduceEqDiff, not_false_eq_true]); assumption) (by clear C ih_95; (try simp (decide := true) only [wB_o, wB_i, wS_s, wS_t, wS_a, ne_eq, Nat.reduceEqDiff, not_false_eq_true]); assumption)) m_X0_advance x_791 x_792 x_793 p_X0_advance rfl ⟨Nat.le_of_ble_eq_true rfl, Nat.le_of_ble_eq_true rfl⟩ (C_m C (u_0 0 (by decide))) k_0 rfl (Nat.le_of_ble_eq_true rfl) dX11_at_113 (fun u3 v3 hp3 => ?_)
          have hu3 := hp3
          cases hu3
          refine v_w (w2 := (wS (wS (wS (wS (wS (wS (wS (wB w SCA U) 13 0 ((advF ((w 500 0 0), (w 501 0 0), (w 502 0 0), (w 30 0), (w 32 0), (w 33 0), (w 34 0), (w 35 0), (w 36 0)) ((w 420 0 0), (w 421 0 0), (w 27 0), (w 28 0), (w 29 0)) ((U 13 0), (U 14 0), (U 15 0), (U 16 0), (U 104 0 0), (U 105 0 0), (U 106 0 0), (U 107 0 0), (U 108 0 0), (U 109 0 0))).1)) 14 0 ((advF ((w 500 0 0), (w 501 0 0), (w 502 0 0), (w 30 0), (w 32 0), (w 33 0), (w 34 0), (w 35 0), (w 36 0)) ((w 420 0 0), (w 421 0 0), (w 27 0), (w 28 0), (w 29 0)) ((U 13 0), (U 14 0), (U 15 0), (U 16 0), (U 104 0 0), (U 105 0 0), (U 106 0 0), (U 107 0 0), (U 108 0 0), (U 109 0 0))).2.1)) 15 0 ((advF ((w 500 0 0), (w 501 0 0), (w 502 0 0), (w 30 0), (w 32 0), (w 33 0), (w 34 0), (w 35 0), (w 36 0)) ((w 420 0 0), (w 421 0 0), (w 27 0), (w 28 0), (w 29 0)) ((U 13 0), (U 14 0), (U 15 0), (U 16 0), (U 104 0 0), (U 105 0 0), (U 106 0 0), (U 107 0 0), (U 108 0 0), (U 109 0 0))).2.2.1)) 16 0 ((advF ((w 500 0 0), (w 501 0 0), (w 502 0 0), (w 30 0), (w 32 0), (w 33 0), (w 34 0), (w 35 0), (w 36 0)) ((w 420 0 0), (w 421 0 0), (w 27 0), (w 28 0), (w 29 0)) ((U 13 0), (U 14 0), (U 15 0), (U 16 0), (U 104 0 0), (U 105 0 0), (U 106 0 0), (U 107 0 0), (U 108 0 0), (U 109 0 0))).2.2.2.1)) 104 0 (fun _ => (advF ((w 500 0 0), (w 501 0 0), (w 502 0 0), (w 30 0), (w 32 0), (w 33 0), (w 34 0), (w 35 0), (w 36 0)) ((w 420 0 0), (w 421 0 0), (w 27 0), (w 28 0), (w 29 0)) ((U 13 0), (U 14 0), (U 15 0), (U 16 0), (U 104 0 0), (U 105 0 0), (U 106 0 0), (U 107 0 0), (U 108 0 0), (U 109 0 0))).2.2.2.2.1)) 105 0 (fun _ => (advF ((w 500 0 0), (w 501 0 0), (w 502 0 0), (w 30 0), (w 32 0), (w 33 0), (w 34 0), (w 35 0), (w 36 0)) ((w 420 0 0), (w 421 0 0), (w 27 0), (w 28 0), (w 29 0)) ((U 13 0), (U 14 0), (U 15 0), (U 16 0), (U 104 0 0), (U 105 0 0), (U 106 0 0), (U 107 0 0), (U 108 0 0), (U 109 0 0))).2.2.2.2.2.1)) 109 0 (fun _ => (advF ((w 500 0 0), (w 501 0 0), (w 502 0 0), (w 30 0), (w 32 0), (w 33 0), (w 34 0), (w 35 0), (w 36 0)) ((w 420 0 0), (w 421 0 0), (w 27 0), (w 28 0), (w 29 0)) ((U 13 0), (U 14 0), (U 15 0), (U 16 0), (U 104 0 0), (U 105 0 0), (U 106 0 0), (U 107 0 0), (U 108 0 0), (U 109 0 0))).2.2.2.2.2.2.2.2.2))) (by simp (decide := true) only [wB_o, wB_i, wS_s, wS_t, wS_a, ne_eq, Nat.reduceEqDiff, not_false_eq_true, wS_wS, wS_p, wS_pp, Nat.reduceLT, id_eq]) ?_
          refine v_iinc (v := t + 1) (lv2 := [(5, .int (t + 1)), (4, .int fd), (0, .ref (E.ad 11 0)), (1, .int ti), (2, .int ce), (3, .int wh)]) C 0 dX11_at_116 rfl rfl (by decide) rfl ?_
          refine v_goto C 95 dX11_at_119 (by decide) ?_
          refine v_w (kp_e (S := SCA) (w := w) (kp_S (by decide) (kp_S (by decide) (kp_S (by decide) (kp_S (by decide) (kp_S (by decide) (kp_S (by decide) (kp_S (by decide) (kp_B (by decide) kp_r))))))))) ?_
          exact ih_95 (t + 1) _ (by clear C ih_95; exact Nat.lt_of_lt_of_le (m_up (by clear g3 gA; grind) (by clear g3 gA; grind)) (Nat.le_of_lt_succ hm_)) (by clear C ih_95; have qa := adv_ae (R := ((w 500 0 0), (w 501 0 0), (w 502 0 0), (w 30 0), (w 32 0), (w 33 0), (w 34 0), (w 35 0), (w 36 0))) (L := ((w 420 0 0), (w 421 0 0), (w 27 0), (w 28 0), (w 29 0))) h1 h2 gA; simp (decide := true) only [tA, tR, wB_o, wB_i, wS_s, wS_t, wS_a, ne_eq, Nat.reduceEqDiff, not_false_eq_true]; refine ⟨by clear g3 gA qa; grind, by clear g3 gA qa; grind, _, qa, ?_⟩; rw [← g3, m_dnn g1 (by clear g3 gA qa; grind)]; rfl)
    refine v_w (kp_e (S := SCA) (w := w) (kp_S (by decide) (kp_S (by decide) (kp_S (by decide) (kp_S (by decide) (kp_S (by decide) (kp_S (by decide) (kp_S (by decide) (kp_S (by decide) (kp_S (by decide) kp_r)))))))))) ?_
    exact hL95 _ 0 _ (Nat.lt_succ_self _) (by clear C hL95; refine ⟨by decide, h3, st0 (w 501 0 0), by simp (decide := true) only [tA, tR, wB_o, wB_i, wS_s, wS_t, wS_a, ne_eq, Nat.reduceEqDiff, not_false_eq_true]; exact st0_ae _ _ _ _ _ _ _, by rw [show ti - 0 = ti by grind]⟩)
  refine v_iload_n C 3 dX11_at_0 rfl ?_
  refine v_if_ne C 27 dX11_at_1 (by decide) (fun c_1 => ?_) (fun c_1 => ?_)
  · refine v_iload_n C 3 dX11_at_27 rfl ?_
    refine v_iconst (v := 1) C dX11_at_28 (by decide) ?_
    refine v_ic_eq C 37 dX11_at_29 (by decide) (fun c_29 => ?_) (fun c_29 => ?_)
    · refine v_aload_n C 0 dX11_at_37 rfl ?_
      refine v_gR C 11 0 4 5 0 (C_m C (u_11 0 (by decide))) k_11 (by decide) x_504 (fun _ _ _ => rfl) dX11_at_38 ?_
      refine v_iload_n C 2 dX11_at_41 rfl ?_
      refine v_vI C 5 0 [.int ce] 1 (c_X5_has E hE _ _ 0 (by decide) ce  ) m_X5_has x_786 x_710 x_711 p_X5_has rfl ⟨Nat.le_of_ble_eq_true rfl, Nat.le_of_ble_eq_true rfl⟩ (C_m C (u_5 0 (by decide))) k_5 rfl (Nat.le_of_ble_eq_true rfl) dX11_at_42 (fun r4 u4 v4 hp4 => ?_)
      obtain ⟨hr4, hu4⟩ := hp4
      subst hr4
      cases hu4
      refine v_if_eq C 52 dX11_at_45 (by decide) (fun c_45 => ?_) (fun c_45 => ?_)
      · refine v_iconst (v := 0) C dX11_at_52 (by decide) ?_
        exact hL53 0 (by clear C hL53; grind)
      · refine v_iconst (v := 1) C dX11_at_48 (by decide) ?_
        refine v_goto C 53 dX11_at_49 (by decide) ?_
        exact hL53 1 (by clear C hL53; grind)
    · refine v_iload_n C 3 dX11_at_32 rfl ?_
      refine v_iconst (v := 2) C dX11_at_33 (by decide) ?_
      refine v_ic_ne C 52 dX11_at_34 (by decide) (fun c_34 => ?_) (fun c_34 => ?_)
      · refine v_iconst (v := 0) C dX11_at_52 (by decide) ?_
        exact hL53 0 (by clear C hL53; grind)
      · refine v_aload_n C 0 dX11_at_37 rfl ?_
        refine v_gR C 11 0 4 5 0 (C_m C (u_11 0 (by decide))) k_11 (by decide) x_504 (fun _ _ _ => rfl) dX11_at_38 ?_
        refine v_iload_n C 2 dX11_at_41 rfl ?_
        refine v_vI C 5 0 [.int ce] 1 (c_X5_has E hE _ _ 0 (by decide) ce  ) m_X5_has x_786 x_710 x_711 p_X5_has rfl ⟨Nat.le_of_ble_eq_true rfl, Nat.le_of_ble_eq_true rfl⟩ (C_m C (u_5 0 (by decide))) k_5 rfl (Nat.le_of_ble_eq_true rfl) dX11_at_42 (fun r5 u5 v5 hp5 => ?_)
        obtain ⟨hr5, hu5⟩ := hp5
        subst hr5
        cases hu5
        refine v_if_eq C 52 dX11_at_45 (by decide) (fun c_45 => ?_) (fun c_45 => ?_)
        · refine v_iconst (v := 0) C dX11_at_52 (by decide) ?_
          exact hL53 0 (by clear C hL53; grind)
        · refine v_iconst (v := 1) C dX11_at_48 (by decide) ?_
          refine v_goto C 53 dX11_at_49 (by decide) ?_
          exact hL53 1 (by clear C hL53; grind)
  · refine v_iload_n C 2 dX11_at_4 rfl ?_
    refine v_if_eq C 19 dX11_at_5 (by decide) (fun c_5 => ?_) (fun c_5 => ?_)
    · refine v_iconst (v := 1) C dX11_at_19 (by decide) ?_
      refine v_goto C 53 dX11_at_20 (by decide) ?_
      exact hL53 1 (by clear C hL53; grind)
    · refine v_aload_n C 0 dX11_at_8 rfl ?_
      refine v_gR C 11 0 4 5 0 (C_m C (u_11 0 (by decide))) k_11 (by decide) x_504 (fun _ _ _ => rfl) dX11_at_9 ?_
      refine v_iload_n C 2 dX11_at_12 rfl ?_
      refine v_vI C 5 0 [.int ce] 1 (c_X5_has E hE _ _ 0 (by decide) ce  ) m_X5_has x_786 x_710 x_711 p_X5_has rfl ⟨Nat.le_of_ble_eq_true rfl, Nat.le_of_ble_eq_true rfl⟩ (C_m C (u_5 0 (by decide))) k_5 rfl (Nat.le_of_ble_eq_true rfl) dX11_at_13 (fun r6 u6 v6 hp6 => ?_)
      obtain ⟨hr6, hu6⟩ := hp6
      subst hr6
      cases hu6
      refine v_if_eq C 23 dX11_at_16 (by decide) (fun c_16 => ?_) (fun c_16 => ?_)
      · refine v_iconst (v := 0) C dX11_at_23 (by decide) ?_
        refine v_goto C 53 dX11_at_24 (by decide) ?_
        exact hL53 0 (by clear C hL53; grind)
      · refine v_iconst (v := 1) C dX11_at_19 (by decide) ?_
        refine v_goto C 53 dX11_at_20 (by decide) ?_
        exact hL53 1 (by clear C hL53; grind)
abbrev P_X11_hears (w : Wi) (z : Wj) (c : Int32) : Int32 → WW → Prop := fun r_ u_ => ∃ (uh_ : Wi), r_ = (if 1 ≤ c ∧ c ≤ (w 500 0 0) then heR ((w 500 0 0), (w 501 0 0), (w 502 0 0), (w 30 0), (w 32 0), (w 33 0), (w 34 0), (w 35 0), (w 36 0)) ((w 420 0 0), (w 421 0 0), (w 27 0), (w 28 0), (w 29 0)) c 600 1 (st0 (w 501 0 0)) else (-1)) ∧ u_ = ((wB w SCA uh_), z)
set_option maxHeartbeats 4000000 in
set_option maxRecDepth 100000 in
theorem c_X11_hears (E : En) (hE : q_ok E) (w : Wi) (z : Wj) (c : Int32) (h1 : 0 ≤ (w 500 0 0)) (h2 : (w 500 0 0) ≤ 16) : CtI M_X11_hears E [.ref (E.ad 11 0), .int c] w z (P_X11_hears w z c) := by
  refine ctI_of (lv := [(0, .ref (E.ad 11 0)), (1, .int c)]) hE m_X11_hears (Nat.le_of_ble_eq_true rfl) rfl ?_
  intro K A C0
  have C : Cx K E A cX11_hears 3 RX11 (some .int) { frames := 3, cells := 0, slots := 0, locals := 75 } := C0
  clear C0
  obtain ⟨Hv, hH⟩ : ∃ Hv : Int32, Hv = heR ((w 500 0 0), (w 501 0 0), (w 502 0 0), (w 30 0), (w 32 0), (w 33 0), (w 34 0), (w 35 0), (w 36 0)) ((w 420 0 0), (w 421 0 0), (w 27 0), (w 28 0), (w 29 0)) c 600 1 (st0 (w 501 0 0)) := ⟨_, rfl⟩
  refine v_aload_n C 0 dX11_hears_0 rfl ?_
  refine v_gR C 11 0 4 5 0 (C_m C (u_11 0 (by decide))) k_11 (by decide) x_504 (fun _ _ _ => rfl) dX11_hears_1 ?_
  refine v_iload_n C 1 dX11_hears_4 rfl ?_
  refine v_vI C 5 0 [.int c] 1 (c_X5_has E hE _ _ 0 (by decide) c  ) m_X5_has x_786 x_710 x_711 p_X5_has rfl ⟨Nat.le_of_ble_eq_true rfl, Nat.le_of_ble_eq_true rfl⟩ (C_m C (u_5 0 (by decide))) k_5 rfl (Nat.le_of_ble_eq_true rfl) dX11_hears_5 (fun r1 u1 v1 hp1 => ?_)
  obtain ⟨hr1, hu1⟩ := hp1
  subst hr1
  cases hu1
  refine v_if_ne C 13 dX11_hears_8 (by decide) (fun c_8 => ?_) (fun c_8 => ?_)
  · refine v_aload_n C 0 dX11_hears_13 rfl ?_
    refine v_gR C 11 0 6 0 0 (C_m C (u_11 0 (by decide))) k_11 (by decide) x_506 (fun _ _ _ => rfl) dX11_hears_14 ?_
    refine v_aload_n C 0 dX11_hears_17 rfl ?_
    refine v_gR C 11 0 4 5 0 (C_m C (u_11 0 (by decide))) k_11 (by decide) x_504 (fun _ _ _ => rfl) dX11_hears_18 ?_
    refine v_vV C 0 0 [.ref (E.ad 5 0)] 1 (c_X0_start E hE _ _ 0 (by decide) 0 (by decide)   ) m_X0_start x_787 x_788 x_789 p_X0_start rfl ⟨Nat.le_of_ble_eq_true rfl, Nat.le_of_ble_eq_true rfl⟩ (C_m C (u_0 0 (by decide))) k_0 rfl (Nat.le_of_ble_eq_true rfl) dX11_hears_21 (fun u2 v2 hp2 => ?_)
    have hu2 := hp2
    cases hu2
    refine v_iconst (v := 1) C dX11_hears_24 (by decide) ?_
    refine v_istore_n (lv2 := [(2, .int 1), (0, .ref (E.ad 11 0)), (1, .int c)]) C dX11_hears_25 rfl (by decide) rfl ?_
    have hL26 : ∀ (n_ : Nat) (t : Int32) (U : Wi), (700 - t).toNatClampNeg < n_ → (1 ≤ t ∧ t ≤ 601 ∧ ∃ S : AS, AE (tA U 0) S ∧ heR ((w 500 0 0), (w 501 0 0), (w 502 0 0), (w 30 0), (w 32 0), (w 33 0), (w 34 0), (w 35 0), (w 36 0)) ((w 420 0 0), (w 421 0 0), (w 27 0), (w 28 0), (w 29 0)) c (601 - t).toNatClampNeg t S = Hv) → V K E A 3 (QI K E A (P_X11_hears w z c)) 26 [(2, .int t), (0, .ref (E.ad 11 0)), (1, .int c)] [] (wB w SCA U) z := by
      intro n_
      induction n_ with
      | zero => intro t U hm_; exact absurd hm_ (Nat.not_lt_zero _)
      | succ n_ ih_26 =>
        intro t U hm_ hinv
        have hc : 1 ≤ c ∧ c ≤ (w 500 0 0) := by grind
        have hk := cl_b (c := c) (by grind)
        obtain ⟨g1, g2, S, gA, g3⟩ := hinv
        refine v_iload_n C 0 dX11_hears_26 rfl ?_
        refine v_sipush (v := 600) C dX11_hears_27 (by decide) ?_
        refine v_ic_gt C 68 dX11_hears_30 (by decide) (fun c_30 => ?_) (fun c_30 => ?_)
        · refine v_iconst (v := (-1)) C dX11_hears_68 (by decide) ?_
          exact v_iret C dX11_hears_69 ⟨_, (by clear C ih_26; rw [if_pos hc, ← hH, ← g3, show t = 601 by clear g3 gA; grind]; rfl), (congr (congrArg Prod.mk (kp_e (kp_B (by decide) kp_r))) rfl)⟩
        · refine v_aload_n C 1 dX11_hears_33 rfl ?_
          refine v_gR C 11 0 6 0 0 (C_m C (u_11 0 (by decide))) k_11 (by decide) x_506 (fun _ _ _ => rfl) dX11_hears_34 ?_
          refine v_aload_n C 1 dX11_hears_37 rfl ?_
          refine v_gR C 11 0 4 5 0 (C_m C (u_11 0 (by decide))) k_11 (by decide) x_504 (fun _ _ _ => rfl) dX11_hears_38 ?_
          refine v_aload_n C 1 dX11_hears_41 rfl ?_
          refine v_gR C 11 0 5 4 0 (C_m C (u_11 0 (by decide))) k_11 (by decide) x_505 (fun _ _ _ => rfl) dX11_hears_42 ?_
          refine v_vV C 0 0 [.ref (E.ad 5 0), .ref (E.ad 4 0)] 2 (c_X0_advance E hE _ _ 0 (by decide) 0 (by decide) 0 (by decide)   (by clear C ih_26; (try simp (decide := true) only [wB_o, wB_i, wS_s, wS_t, wS_a, ne_eq, Nat.reduceEqDiff, not_false_eq_true]); assumption) (by clear C ih_26; (try simp (decide := true) only [wB_o, wB_i, wS_s, wS_t, wS_a, ne_eq, Nat.reduceEqDiff, not_false_eq_true]); assumption)) m_X0_advance x_791 x_792 x_793 p_X0_advance rfl ⟨Nat.le_of_ble_eq_true rfl, Nat.le_of_ble_eq_true rfl⟩ (C_m C (u_0 0 (by decide))) k_0 rfl (Nat.le_of_ble_eq_true rfl) dX11_hears_45 (fun u3 v3 hp3 => ?_)
          have hu3 := hp3
          cases hu3
          refine v_w (w2 := (wS (wS (wS (wS (wS (wS (wS (wB w SCA U) 13 0 ((advF ((w 500 0 0), (w 501 0 0), (w 502 0 0), (w 30 0), (w 32 0), (w 33 0), (w 34 0), (w 35 0), (w 36 0)) ((w 420 0 0), (w 421 0 0), (w 27 0), (w 28 0), (w 29 0)) ((U 13 0), (U 14 0), (U 15 0), (U 16 0), (U 104 0 0), (U 105 0 0), (U 106 0 0), (U 107 0 0), (U 108 0 0), (U 109 0 0))).1)) 14 0 ((advF ((w 500 0 0), (w 501 0 0), (w 502 0 0), (w 30 0), (w 32 0), (w 33 0), (w 34 0), (w 35 0), (w 36 0)) ((w 420 0 0), (w 421 0 0), (w 27 0), (w 28 0), (w 29 0)) ((U 13 0), (U 14 0), (U 15 0), (U 16 0), (U 104 0 0), (U 105 0 0), (U 106 0 0), (U 107 0 0), (U 108 0 0), (U 109 0 0))).2.1)) 15 0 ((advF ((w 500 0 0), (w 501 0 0), (w 502 0 0), (w 30 0), (w 32 0), (w 33 0), (w 34 0), (w 35 0), (w 36 0)) ((w 420 0 0), (w 421 0 0), (w 27 0), (w 28 0), (w 29 0)) ((U 13 0), (U 14 0), (U 15 0), (U 16 0), (U 104 0 0), (U 105 0 0), (U 106 0 0), (U 107 0 0), (U 108 0 0), (U 109 0 0))).2.2.1)) 16 0 ((advF ((w 500 0 0), (w 501 0 0), (w 502 0 0), (w 30 0), (w 32 0), (w 33 0), (w 34 0), (w 35 0), (w 36 0)) ((w 420 0 0), (w 421 0 0), (w 27 0), (w 28 0), (w 29 0)) ((U 13 0), (U 14 0), (U 15 0), (U 16 0), (U 104 0 0), (U 105 0 0), (U 106 0 0), (U 107 0 0), (U 108 0 0), (U 109 0 0))).2.2.2.1)) 104 0 (fun _ => (advF ((w 500 0 0), (w 501 0 0), (w 502 0 0), (w 30 0), (w 32 0), (w 33 0), (w 34 0), (w 35 0), (w 36 0)) ((w 420 0 0), (w 421 0 0), (w 27 0), (w 28 0), (w 29 0)) ((U 13 0), (U 14 0), (U 15 0), (U 16 0), (U 104 0 0), (U 105 0 0), (U 106 0 0), (U 107 0 0), (U 108 0 0), (U 109 0 0))).2.2.2.2.1)) 105 0 (fun _ => (advF ((w 500 0 0), (w 501 0 0), (w 502 0 0), (w 30 0), (w 32 0), (w 33 0), (w 34 0), (w 35 0), (w 36 0)) ((w 420 0 0), (w 421 0 0), (w 27 0), (w 28 0), (w 29 0)) ((U 13 0), (U 14 0), (U 15 0), (U 16 0), (U 104 0 0), (U 105 0 0), (U 106 0 0), (U 107 0 0), (U 108 0 0), (U 109 0 0))).2.2.2.2.2.1)) 109 0 (fun _ => (advF ((w 500 0 0), (w 501 0 0), (w 502 0 0), (w 30 0), (w 32 0), (w 33 0), (w 34 0), (w 35 0), (w 36 0)) ((w 420 0 0), (w 421 0 0), (w 27 0), (w 28 0), (w 29 0)) ((U 13 0), (U 14 0), (U 15 0), (U 16 0), (U 104 0 0), (U 105 0 0), (U 106 0 0), (U 107 0 0), (U 108 0 0), (U 109 0 0))).2.2.2.2.2.2.2.2.2))) (by simp (decide := true) only [wB_o, wB_i, wS_s, wS_t, wS_a, ne_eq, Nat.reduceEqDiff, not_false_eq_true, wS_wS, wS_p, wS_pp, Nat.reduceLT, id_eq]) ?_
          refine v_aload_n C 1 dX11_hears_48 rfl ?_
          refine v_gR C 11 0 6 0 0 (C_m C (u_11 0 (by decide))) k_11 (by decide) x_506 (fun _ _ _ => rfl) dX11_hears_49 ?_
          refine v_iload_n C 2 dX11_hears_52 rfl ?_
          refine v_iconst (v := 2) C dX11_hears_53 (by decide) ?_
          refine v_vI C 0 0 [.int c, .int 2] 2 (c_X0_measure E hE _ _ 0 (by decide) c 2  ) m_X0_measure x_826 x_827 x_828 p_X0_measure rfl ⟨Nat.le_of_ble_eq_true rfl, Nat.le_of_ble_eq_true rfl⟩ (C_m C (u_0 0 (by decide))) k_0 rfl (Nat.le_of_ble_eq_true rfl) dX11_hears_54 (fun r4 u4 v4 hp4 => ?_)
          obtain ⟨hr4, hu4⟩ := hp4
          subst hr4
          cases hu4
          refine v_i (y := if 0 ≤ c ∧ c < 17 then (if (2 : Int32) = 0 then ((advF ((w 500 0 0), (w 501 0 0), (w 502 0 0), (w 30 0), (w 32 0), (w 33 0), (w 34 0), (w 35 0), (w 36 0)) ((w 420 0 0), (w 421 0 0), (w 27 0), (w 28 0), (w 29 0)) ((U 13 0), (U 14 0), (U 15 0), (U 16 0), (U 104 0 0), (U 105 0 0), (U 106 0 0), (U 107 0 0), (U 108 0 0), (U 109 0 0))).1) (c).toNatClampNeg else if (2 : Int32) = 1 then ((advF ((w 500 0 0), (w 501 0 0), (w 502 0 0), (w 30 0), (w 32 0), (w 33 0), (w 34 0), (w 35 0), (w 36 0)) ((w 420 0 0), (w 421 0 0), (w 27 0), (w 28 0), (w 29 0)) ((U 13 0), (U 14 0), (U 15 0), (U 16 0), (U 104 0 0), (U 105 0 0), (U 106 0 0), (U 107 0 0), (U 108 0 0), (U 109 0 0))).2.2.1) (c).toNatClampNeg else ((advF ((w 500 0 0), (w 501 0 0), (w 502 0 0), (w 30 0), (w 32 0), (w 33 0), (w 34 0), (w 35 0), (w 36 0)) ((w 420 0 0), (w 421 0 0), (w 27 0), (w 28 0), (w 29 0)) ((U 13 0), (U 14 0), (U 15 0), (U 16 0), (U 104 0 0), (U 105 0 0), (U 106 0 0), (U 107 0 0), (U 108 0 0), (U 109 0 0))).2.2.2.1) (c).toNatClampNeg) else (-1)) (by simp (decide := true) only [wB_o, wB_i, wS_s, wS_t, wS_a, ne_eq, Nat.reduceEqDiff, not_false_eq_true]) ?_
          have hL57 : ∀ (v : Int32) (U2 : Wi), (v = (advF ((w 500 0 0), (w 501 0 0), (w 502 0 0), (w 30 0), (w 32 0), (w 33 0), (w 34 0), (w 35 0), (w 36 0)) ((w 420 0 0), (w 421 0 0), (w 27 0), (w 28 0), (w 29 0)) S).2.2.2.1 c.toNatClampNeg ∧ AE (tA U2 0) (advF ((w 500 0 0), (w 501 0 0), (w 502 0 0), (w 30 0), (w 32 0), (w 33 0), (w 34 0), (w 35 0), (w 36 0)) ((w 420 0 0), (w 421 0 0), (w 27 0), (w 28 0), (w 29 0)) S)) → V K E A 3 (QI K E A (P_X11_hears w z c)) 57 [(2, .int t), (0, .ref (E.ad 11 0)), (1, .int c)] [.int v] (wB w SCA U2) z := by
            intro v U2 hinv
            obtain ⟨ev, gB⟩ := hinv
            refine v_if_le C 62 dX11_hears_57 (by decide) (fun c_57 => ?_) (fun c_57 => ?_)
            · refine v_iinc (v := t + 1) (lv2 := [(2, .int (t + 1)), (0, .ref (E.ad 11 0)), (1, .int c)]) C 0 dX11_hears_62 rfl rfl (by decide) rfl ?_
              refine v_goto C 26 dX11_hears_65 (by decide) ?_
              refine v_w (kp_e (S := SCA) (w := w) (kp_B (by decide) kp_r)) ?_
              exact ih_26 (t + 1) _ (by clear C ih_26; exact Nat.lt_of_lt_of_le (m_up (by clear g3 gA; grind) (by clear g3 gA; grind)) (Nat.le_of_lt_succ hm_)) (by clear C ih_26; refine ⟨by clear g3 gA gB; grind, by clear g3 gA gB; grind, _, gB, ?_⟩; rw [← g3, m_dnn (i := t) (N := 601) (by clear g3 gA gB; grind) (by clear g3 gA gB; grind)]; simp only [heR]; rw [if_neg (by rw [← ev]; clear g3 gA gB; grind)])
            · refine v_iload_n C 0 dX11_hears_60 rfl ?_
              exact v_iret C dX11_hears_61 ⟨_, (by clear C ih_26; rw [if_pos hc, ← hH, ← g3, m_dnn (i := t) (N := 601) (by clear g3 gA gB; grind) (by clear g3 gA gB; grind)]; simp only [heR]; rw [if_pos (by rw [← ev]; clear g3 gA gB; grind)]), (congr (congrArg Prod.mk (kp_e (kp_B (by decide) kp_r))) rfl)⟩
          refine v_w (kp_e (S := SCA) (w := w) (kp_S (by decide) (kp_S (by decide) (kp_S (by decide) (kp_S (by decide) (kp_S (by decide) (kp_S (by decide) (kp_S (by decide) (kp_B (by decide) kp_r))))))))) ?_
          exact hL57 (if 0 ≤ c ∧ c < 17 then (if (2 : Int32) = 0 then ((advF ((w 500 0 0), (w 501 0 0), (w 502 0 0), (w 30 0), (w 32 0), (w 33 0), (w 34 0), (w 35 0), (w 36 0)) ((w 420 0 0), (w 421 0 0), (w 27 0), (w 28 0), (w 29 0)) ((U 13 0), (U 14 0), (U 15 0), (U 16 0), (U 104 0 0), (U 105 0 0), (U 106 0 0), (U 107 0 0), (U 108 0 0), (U 109 0 0))).1) (c).toNatClampNeg else if (2 : Int32) = 1 then ((advF ((w 500 0 0), (w 501 0 0), (w 502 0 0), (w 30 0), (w 32 0), (w 33 0), (w 34 0), (w 35 0), (w 36 0)) ((w 420 0 0), (w 421 0 0), (w 27 0), (w 28 0), (w 29 0)) ((U 13 0), (U 14 0), (U 15 0), (U 16 0), (U 104 0 0), (U 105 0 0), (U 106 0 0), (U 107 0 0), (U 108 0 0), (U 109 0 0))).2.2.1) (c).toNatClampNeg else ((advF ((w 500 0 0), (w 501 0 0), (w 502 0 0), (w 30 0), (w 32 0), (w 33 0), (w 34 0), (w 35 0), (w 36 0)) ((w 420 0 0), (w 421 0 0), (w 27 0), (w 28 0), (w 29 0)) ((U 13 0), (U 14 0), (U 15 0), (U 16 0), (U 104 0 0), (U 105 0 0), (U 106 0 0), (U 107 0 0), (U 108 0 0), (U 109 0 0))).2.2.2.1) (c).toNatClampNeg) else (-1)) _ (by clear C ih_26 hL57; have q := adv_ae (R := ((w 500 0 0), (w 501 0 0), (w 502 0 0), (w 30 0), (w 32 0), (w 33 0), (w 34 0), (w 35 0), (w 36 0))) (L := ((w 420 0 0), (w 421 0 0), (w 27 0), (w 28 0), (w 29 0))) h1 h2 gA; refine ⟨?_, by simp (decide := true) only [tA, tR, wB_o, wB_i, wS_s, wS_t, wS_a, ne_eq, Nat.reduceEqDiff, not_false_eq_true]; exact q⟩; have q2 := q.2.2.1 _ hk; dsimp only at q2; rw [← q2, if_pos (by clear g3 gA q q2; grind)]; rfl)
    refine v_w (kp_e (S := SCA) (w := w) (kp_S (by decide) (kp_S (by decide) (kp_S (by decide) (kp_S (by decide) (kp_S (by decide) (kp_S (by decide) (kp_S (by decide) (kp_S (by decide) (kp_S (by decide) kp_r)))))))))) ?_
    exact hL26 _ 1 _ (Nat.lt_succ_self _) (by clear C hL26; refine ⟨by decide, by decide, st0 (w 501 0 0), by simp (decide := true) only [tA, tR, wB_o, wB_i, wS_s, wS_t, wS_a, ne_eq, Nat.reduceEqDiff, not_false_eq_true]; exact st0_ae _ _ _ _ _ _ _, hH.symm⟩)
  · refine v_iconst (v := (-1)) C dX11_hears_11 (by decide) ?_
    exact v_iret C dX11_hears_12 ⟨_, (by clear C; rw [if_neg (by grind)]), (congr (congrArg Prod.mk (kp_e kp_r)) rfl)⟩
abbrev P_X11_easy (w : Wi) (z : Wj) : Int32 → WW → Prop := fun r_ u_ => ∃ (uh_ : Wi), r_ = (eaR ((w 500 0 0), (w 501 0 0), (w 502 0 0), (w 30 0), (w 32 0), (w 33 0), (w 34 0), (w 35 0), (w 36 0)) ((w 420 0 0), (w 421 0 0), (w 27 0), (w 28 0), (w 29 0)) 600 1 0 (st0 (w 501 0 0))) ∧ u_ = ((wB w SCA uh_), z)
set_option maxHeartbeats 4000000 in
set_option maxRecDepth 100000 in
theorem c_X11_easy (E : En) (hE : q_ok E) (w : Wi) (z : Wj) (h1 : 0 ≤ (w 500 0 0)) (h2 : (w 500 0 0) ≤ 16) : CtI M_X11_easy E [.ref (E.ad 11 0)] w z (P_X11_easy w z) := by
  refine ctI_of (lv := [(0, .ref (E.ad 11 0))]) hE m_X11_easy (Nat.le_of_ble_eq_true rfl) rfl ?_
  intro K A C0
  have C : Cx K E A cX11_easy 4 RX11 (some .int) { frames := 3, cells := 0, slots := 0, locals := 75 } := C0
  clear C0
  obtain ⟨Hv, hH⟩ : ∃ Hv : Int32, Hv = eaR ((w 500 0 0), (w 501 0 0), (w 502 0 0), (w 30 0), (w 32 0), (w 33 0), (w 34 0), (w 35 0), (w 36 0)) ((w 420 0 0), (w 421 0 0), (w 27 0), (w 28 0), (w 29 0)) 600 1 0 (st0 (w 501 0 0)) := ⟨_, rfl⟩
  refine v_iconst (v := 0) C dX11_easy_0 (by decide) ?_
  refine v_istore_n (lv2 := [(1, .int 0), (0, .ref (E.ad 11 0))]) C dX11_easy_1 rfl (by decide) rfl ?_
  refine v_aload_n C 1 dX11_easy_2 rfl ?_
  refine v_gR C 11 0 6 0 0 (C_m C (u_11 0 (by decide))) k_11 (by decide) x_506 (fun _ _ _ => rfl) dX11_easy_3 ?_
  refine v_aload_n C 1 dX11_easy_6 rfl ?_
  refine v_gR C 11 0 4 5 0 (C_m C (u_11 0 (by decide))) k_11 (by decide) x_504 (fun _ _ _ => rfl) dX11_easy_7 ?_
  refine v_vV C 0 0 [.ref (E.ad 5 0)] 1 (c_X0_start E hE _ _ 0 (by decide) 0 (by decide)   ) m_X0_start x_787 x_788 x_789 p_X0_start rfl ⟨Nat.le_of_ble_eq_true rfl, Nat.le_of_ble_eq_true rfl⟩ (C_m C (u_0 0 (by decide))) k_0 rfl (Nat.le_of_ble_eq_true rfl) dX11_easy_10 (fun u1 v1 hp1 => ?_)
  have hu1 := hp1
  cases hu1
  refine v_iconst (v := 1) C dX11_easy_13 (by decide) ?_
  refine v_istore_n (lv2 := [(2, .int 1), (1, .int 0), (0, .ref (E.ad 11 0))]) C dX11_easy_14 rfl (by decide) rfl ?_
  have hL15 : ∀ (n_ : Nat) (hd : Int32) (t : Int32) (U : Wi), (700 - t).toNatClampNeg < n_ → (1 ≤ t ∧ t ≤ 601 ∧ ∃ S : AS, AE (tA U 0) S ∧ eaR ((w 500 0 0), (w 501 0 0), (w 502 0 0), (w 30 0), (w 32 0), (w 33 0), (w 34 0), (w 35 0), (w 36 0)) ((w 420 0 0), (w 421 0 0), (w 27 0), (w 28 0), (w 29 0)) (601 - t).toNatClampNeg t hd S = Hv) → V K E A 4 (QI K E A (P_X11_easy w z)) 15 [(2, .int t), (1, .int hd), (0, .ref (E.ad 11 0))] [] (wB w SCA U) z := by
    intro n_
    induction n_ with
    | zero => intro hd t U hm_; exact absurd hm_ (Nat.not_lt_zero _)
    | succ n_ ih_15 =>
      intro hd t U hm_ hinv
      obtain ⟨g1, g2, S, gA, g3⟩ := hinv
      refine v_iload_n C 0 dX11_easy_15 rfl ?_
      refine v_sipush (v := 600) C dX11_easy_16 (by decide) ?_
      refine v_ic_gt C 79 dX11_easy_19 (by decide) (fun c_19 => ?_) (fun c_19 => ?_)
      · refine v_iconst (v := (-1)) C dX11_easy_79 (by decide) ?_
        exact v_iret C dX11_easy_80 ⟨_, (by clear C ih_15; rw [← hH, ← g3, show t = 601 by clear g3 gA; grind]; rfl), (congr (congrArg Prod.mk (kp_e (kp_B (by decide) kp_r))) rfl)⟩
      · refine v_aload_n C 2 dX11_easy_22 rfl ?_
        refine v_gR C 11 0 6 0 0 (C_m C (u_11 0 (by decide))) k_11 (by decide) x_506 (fun _ _ _ => rfl) dX11_easy_23 ?_
        refine v_aload_n C 2 dX11_easy_26 rfl ?_
        refine v_gR C 11 0 4 5 0 (C_m C (u_11 0 (by decide))) k_11 (by decide) x_504 (fun _ _ _ => rfl) dX11_easy_27 ?_
        refine v_aload_n C 2 dX11_easy_30 rfl ?_
        refine v_gR C 11 0 5 4 0 (C_m C (u_11 0 (by decide))) k_11 (by decide) x_505 (fun _ _ _ => rfl) dX11_easy_31 ?_
        refine v_vV C 0 0 [.ref (E.ad 5 0), .ref (E.ad 4 0)] 2 (c_X0_advance E hE _ _ 0 (by decide) 0 (by decide) 0 (by decide)   (by clear C ih_15; (try simp (decide := true) only [wB_o, wB_i, wS_s, wS_t, wS_a, ne_eq, Nat.reduceEqDiff, not_false_eq_true]); assumption) (by clear C ih_15; (try simp (decide := true) only [wB_o, wB_i, wS_s, wS_t, wS_a, ne_eq, Nat.reduceEqDiff, not_false_eq_true]); assumption)) m_X0_advance x_791 x_792 x_793 p_X0_advance rfl ⟨Nat.le_of_ble_eq_true rfl, Nat.le_of_ble_eq_true rfl⟩ (C_m C (u_0 0 (by decide))) k_0 rfl (Nat.le_of_ble_eq_true rfl) dX11_easy_34 (fun u2 v2 hp2 => ?_)
        have hu2 := hp2
        cases hu2
        refine v_w (w2 := (wS (wS (wS (wS (wS (wS (wS (wB w SCA U) 13 0 ((advF ((w 500 0 0), (w 501 0 0), (w 502 0 0), (w 30 0), (w 32 0), (w 33 0), (w 34 0), (w 35 0), (w 36 0)) ((w 420 0 0), (w 421 0 0), (w 27 0), (w 28 0), (w 29 0)) ((U 13 0), (U 14 0), (U 15 0), (U 16 0), (U 104 0 0), (U 105 0 0), (U 106 0 0), (U 107 0 0), (U 108 0 0), (U 109 0 0))).1)) 14 0 ((advF ((w 500 0 0), (w 501 0 0), (w 502 0 0), (w 30 0), (w 32 0), (w 33 0), (w 34 0), (w 35 0), (w 36 0)) ((w 420 0 0), (w 421 0 0), (w 27 0), (w 28 0), (w 29 0)) ((U 13 0), (U 14 0), (U 15 0), (U 16 0), (U 104 0 0), (U 105 0 0), (U 106 0 0), (U 107 0 0), (U 108 0 0), (U 109 0 0))).2.1)) 15 0 ((advF ((w 500 0 0), (w 501 0 0), (w 502 0 0), (w 30 0), (w 32 0), (w 33 0), (w 34 0), (w 35 0), (w 36 0)) ((w 420 0 0), (w 421 0 0), (w 27 0), (w 28 0), (w 29 0)) ((U 13 0), (U 14 0), (U 15 0), (U 16 0), (U 104 0 0), (U 105 0 0), (U 106 0 0), (U 107 0 0), (U 108 0 0), (U 109 0 0))).2.2.1)) 16 0 ((advF ((w 500 0 0), (w 501 0 0), (w 502 0 0), (w 30 0), (w 32 0), (w 33 0), (w 34 0), (w 35 0), (w 36 0)) ((w 420 0 0), (w 421 0 0), (w 27 0), (w 28 0), (w 29 0)) ((U 13 0), (U 14 0), (U 15 0), (U 16 0), (U 104 0 0), (U 105 0 0), (U 106 0 0), (U 107 0 0), (U 108 0 0), (U 109 0 0))).2.2.2.1)) 104 0 (fun _ => (advF ((w 500 0 0), (w 501 0 0), (w 502 0 0), (w 30 0), (w 32 0), (w 33 0), (w 34 0), (w 35 0), (w 36 0)) ((w 420 0 0), (w 421 0 0), (w 27 0), (w 28 0), (w 29 0)) ((U 13 0), (U 14 0), (U 15 0), (U 16 0), (U 104 0 0), (U 105 0 0), (U 106 0 0), (U 107 0 0), (U 108 0 0), (U 109 0 0))).2.2.2.2.1)) 105 0 (fun _ => (advF ((w 500 0 0), (w 501 0 0), (w 502 0 0), (w 30 0), (w 32 0), (w 33 0), (w 34 0), (w 35 0), (w 36 0)) ((w 420 0 0), (w 421 0 0), (w 27 0), (w 28 0), (w 29 0)) ((U 13 0), (U 14 0), (U 15 0), (U 16 0), (U 104 0 0), (U 105 0 0), (U 106 0 0), (U 107 0 0), (U 108 0 0), (U 109 0 0))).2.2.2.2.2.1)) 109 0 (fun _ => (advF ((w 500 0 0), (w 501 0 0), (w 502 0 0), (w 30 0), (w 32 0), (w 33 0), (w 34 0), (w 35 0), (w 36 0)) ((w 420 0 0), (w 421 0 0), (w 27 0), (w 28 0), (w 29 0)) ((U 13 0), (U 14 0), (U 15 0), (U 16 0), (U 104 0 0), (U 105 0 0), (U 106 0 0), (U 107 0 0), (U 108 0 0), (U 109 0 0))).2.2.2.2.2.2.2.2.2))) (by simp (decide := true) only [wB_o, wB_i, wS_s, wS_t, wS_a, ne_eq, Nat.reduceEqDiff, not_false_eq_true, wS_wS, wS_p, wS_pp, Nat.reduceLT, id_eq]) ?_
        refine v_aload_n C 2 dX11_easy_37 rfl ?_
        refine v_gR C 11 0 6 0 0 (C_m C (u_11 0 (by decide))) k_11 (by decide) x_506 (fun _ _ _ => rfl) dX11_easy_38 ?_
        refine v_aload_n C 2 dX11_easy_41 rfl ?_
        refine v_gR C 11 0 4 5 0 (C_m C (u_11 0 (by decide))) k_11 (by decide) x_504 (fun _ _ _ => rfl) dX11_easy_42 ?_
        refine v_vI C 0 0 [.ref (E.ad 5 0)] 1 (c_X0_anyHears E hE _ _ 0 (by decide) 0 (by decide)   (by clear C ih_15; (try simp (decide := true) only [wB_o, wB_i, wS_s, wS_t, wS_a, ne_eq, Nat.reduceEqDiff, not_false_eq_true]); assumption) (by clear C ih_15; (try simp (decide := true) only [wB_o, wB_i, wS_s, wS_t, wS_a, ne_eq, Nat.reduceEqDiff, not_false_eq_true]); assumption)) m_X0_anyHears x_834 x_835 x_836 p_X0_anyHears rfl ⟨Nat.le_of_ble_eq_true rfl, Nat.le_of_ble_eq_true rfl⟩ (C_m C (u_0 0 (by decide))) k_0 rfl (Nat.le_of_ble_eq_true rfl) dX11_easy_45 (fun r3 u3 v3 hp3 => ?_)
        obtain ⟨hr3, hu3⟩ := hp3
        subst hr3
        cases hu3
        refine v_i (y := anyR ((advF ((w 500 0 0), (w 501 0 0), (w 502 0 0), (w 30 0), (w 32 0), (w 33 0), (w 34 0), (w 35 0), (w 36 0)) ((w 420 0 0), (w 421 0 0), (w 27 0), (w 28 0), (w 29 0)) ((U 13 0), (U 14 0), (U 15 0), (U 16 0), (U 104 0 0), (U 105 0 0), (U 106 0 0), (U 107 0 0), (U 108 0 0), (U 109 0 0))).2.2.2.1) ((w 500 0 0) + 1).toNatClampNeg) (by simp (decide := true) only [wB_o, wB_i, wS_s, wS_t, wS_a, ne_eq, Nat.reduceEqDiff, not_false_eq_true]) ?_
        have hL48 : ∀ (v : Int32) (U2 : Wi), (v = anyR (advF ((w 500 0 0), (w 501 0 0), (w 502 0 0), (w 30 0), (w 32 0), (w 33 0), (w 34 0), (w 35 0), (w 36 0)) ((w 420 0 0), (w 421 0 0), (w 27 0), (w 28 0), (w 29 0)) S).2.2.2.1 ((w 500 0 0) + 1).toNatClampNeg ∧ AE (tA U2 0) (advF ((w 500 0 0), (w 501 0 0), (w 502 0 0), (w 30 0), (w 32 0), (w 33 0), (w 34 0), (w 35 0), (w 36 0)) ((w 420 0 0), (w 421 0 0), (w 27 0), (w 28 0), (w 29 0)) S)) → V K E A 4 (QI K E A (P_X11_easy w z)) 48 [(2, .int t), (1, .int hd), (0, .ref (E.ad 11 0))] [.int v] (wB w SCA U2) z := by
          intro v U2 hinv
          obtain ⟨ev, gB⟩ := hinv
          refine v_istore_n (lv2 := [(3, .int v), (2, .int t), (1, .int hd), (0, .ref (E.ad 11 0))]) C dX11_easy_48 rfl (by decide) rfl ?_
          refine v_iload_n C 2 dX11_easy_49 rfl ?_
          refine v_if_eq C 59 dX11_easy_50 (by decide) (fun c_50 => ?_) (fun c_50 => ?_)
          · have hL72 : ∀ (h9 : Int32), (¬ (hd ≠ 0 ∧ v = 0) ∧ h9 = (if hd ≠ 0 ∨ v ≠ 0 then 1 else 0)) → V K E A 4 (QI K E A (P_X11_easy w z)) 72 [(3, .int v), (2, .int t), (1, .int hd), (0, .ref (E.ad 11 0))] [.int h9] (wB w SCA U2) z := by
              intro h9 hinv
              obtain ⟨hn, eh⟩ := hinv
              refine v_istore_n (lv2 := [(1, .int h9), (3, .int v), (2, .int t), (0, .ref (E.ad 11 0))]) C dX11_easy_72 rfl (by decide) rfl ?_
              refine v_iinc (v := t + 1) (lv2 := [(2, .int (t + 1)), (1, .int h9), (3, .int v), (0, .ref (E.ad 11 0))]) C 2 dX11_easy_73 rfl rfl (by decide) rfl ?_
              refine v_goto C 15 dX11_easy_76 (by decide) ?_
              refine v_w (kp_e (S := SCA) (w := w) (kp_B (by decide) kp_r)) ?_
              refine v_l [0, 1, 3] rfl ?_
              exact ih_15 h9 (t + 1) _ (by clear C ih_15; exact Nat.lt_of_lt_of_le (m_up (by clear g3 gA; grind) (by clear g3 gA; grind)) (Nat.le_of_lt_succ hm_)) (by clear C ih_15; refine ⟨by clear g3 gA gB; grind, by clear g3 gA gB; grind, _, gB, ?_⟩; rw [← g3, m_dnn (i := t) (N := 601) (by clear g3 gA gB; grind) (by clear g3 gA gB; grind)]; simp only [eaR]; rw [← ev, if_neg (by clear g3 gA gB; grind), eh])
            refine v_iload_n C 2 dX11_easy_59 rfl ?_
            refine v_if_ne C 67 dX11_easy_60 (by decide) (fun c_60 => ?_) (fun c_60 => ?_)
            · refine v_iconst (v := 1) C dX11_easy_67 (by decide) ?_
              refine v_goto C 72 dX11_easy_68 (by decide) ?_
              exact hL72 1 (by clear C ih_15 hL72; clear g3 gA gB; grind)
            · refine v_iload_n C 0 dX11_easy_63 rfl ?_
              refine v_if_eq C 71 dX11_easy_64 (by decide) (fun c_64 => ?_) (fun c_64 => ?_)
              · refine v_iconst (v := 0) C dX11_easy_71 (by decide) ?_
                exact hL72 0 (by clear C ih_15 hL72; clear g3 gA gB; grind)
              · refine v_iconst (v := 1) C dX11_easy_67 (by decide) ?_
                refine v_goto C 72 dX11_easy_68 (by decide) ?_
                exact hL72 1 (by clear C ih_15 hL72; clear g3 gA gB; grind)
          · refine v_iload_n C 0 dX11_easy_53 rfl ?_
            refine v_if_ne C 59 dX11_easy_54 (by decide) (fun c_54 => ?_) (fun c_54 => ?_)
            · have hL72 : ∀ (h9 : Int32), (¬ (hd ≠ 0 ∧ v = 0) ∧ h9 = (if hd ≠ 0 ∨ v ≠ 0 then 1 else 0)) → V K E A 4 (QI K E A (P_X11_easy w z)) 72 [(3, .int v), (2, .int t), (1, .int hd), (0, .ref (E.ad 11 0))] [.int h9] (wB w SCA U2) z := by
                intro h9 hinv
                obtain ⟨hn, eh⟩ := hinv
                refine v_istore_n (lv2 := [(1, .int h9), (3, .int v), (2, .int t), (0, .ref (E.ad 11 0))]) C dX11_easy_72 rfl (by decide) rfl ?_
                refine v_iinc (v := t + 1) (lv2 := [(2, .int (t + 1)), (1, .int h9), (3, .int v), (0, .ref (E.ad 11 0))]) C 2 dX11_easy_73 rfl rfl (by decide) rfl ?_
                refine v_goto C 15 dX11_easy_76 (by decide) ?_
                refine v_w (kp_e (S := SCA) (w := w) (kp_B (by decide) kp_r)) ?_
                refine v_l [0, 1, 3] rfl ?_
                exact ih_15 h9 (t + 1) _ (by clear C ih_15; exact Nat.lt_of_lt_of_le (m_up (by clear g3 gA; grind) (by clear g3 gA; grind)) (Nat.le_of_lt_succ hm_)) (by clear C ih_15; refine ⟨by clear g3 gA gB; grind, by clear g3 gA gB; grind, _, gB, ?_⟩; rw [← g3, m_dnn (i := t) (N := 601) (by clear g3 gA gB; grind) (by clear g3 gA gB; grind)]; simp only [eaR]; rw [← ev, if_neg (by clear g3 gA gB; grind), eh])
              refine v_iload_n C 2 dX11_easy_59 rfl ?_
              refine v_if_ne C 67 dX11_easy_60 (by decide) (fun c_60 => ?_) (fun c_60 => ?_)
              · refine v_iconst (v := 1) C dX11_easy_67 (by decide) ?_
                refine v_goto C 72 dX11_easy_68 (by decide) ?_
                exact hL72 1 (by clear C ih_15 hL72; clear g3 gA gB; grind)
              · refine v_iload_n C 0 dX11_easy_63 rfl ?_
                refine v_if_eq C 71 dX11_easy_64 (by decide) (fun c_64 => ?_) (fun c_64 => ?_)
                · refine v_iconst (v := 0) C dX11_easy_71 (by decide) ?_
                  exact hL72 0 (by clear C ih_15 hL72; clear g3 gA gB; grind)
                · refine v_iconst (v := 1) C dX11_easy_67 (by decide) ?_
                  refine v_goto C 72 dX11_easy_68 (by decide) ?_
                  exact hL72 1 (by clear C ih_15 hL72; clear g3 gA gB; grind)
            · refine v_iload_n C 1 dX11_easy_57 rfl ?_
              exact v_iret C dX11_easy_58 ⟨_, (by clear C ih_15; rw [← hH, ← g3, m_dnn (i := t) (N := 601) (by clear g3 gA gB; grind) (by clear g3 gA gB; grind)]; simp only [eaR]; rw [← ev, if_pos (by clear g3 gA gB; grind)]), (congr (congrArg Prod.mk (kp_e (kp_B (by decide) kp_r))) rfl)⟩
        refine v_w (kp_e (S := SCA) (w := w) (kp_S (by decide) (kp_S (by decide) (kp_S (by decide) (kp_S (by decide) (kp_S (by decide) (kp_S (by decide) (kp_S (by decide) (kp_B (by decide) kp_r))))))))) ?_
        exact hL48 (anyR ((advF ((w 500 0 0), (w 501 0 0), (w 502 0 0), (w 30 0), (w 32 0), (w 33 0), (w 34 0), (w 35 0), (w 36 0)) ((w 420 0 0), (w 421 0 0), (w 27 0), (w 28 0), (w 29 0)) ((U 13 0), (U 14 0), (U 15 0), (U 16 0), (U 104 0 0), (U 105 0 0), (U 106 0 0), (U 107 0 0), (U 108 0 0), (U 109 0 0))).2.2.2.1) ((w 500 0 0) + 1).toNatClampNeg) _ (by clear C ih_15 hL48; have q := adv_ae (R := ((w 500 0 0), (w 501 0 0), (w 502 0 0), (w 30 0), (w 32 0), (w 33 0), (w 34 0), (w 35 0), (w 36 0))) (L := ((w 420 0 0), (w 421 0 0), (w 27 0), (w 28 0), (w 29 0))) h1 h2 gA; refine ⟨?_, by simp (decide := true) only [tA, tR, wB_o, wB_i, wS_s, wS_t, wS_a, ne_eq, Nat.reduceEqDiff, not_false_eq_true]; exact q⟩; exact anyR_ag q.2.2.1 (sz_b h1 h2))
  refine v_w (kp_e (S := SCA) (w := w) (kp_S (by decide) (kp_S (by decide) (kp_S (by decide) (kp_S (by decide) (kp_S (by decide) (kp_S (by decide) (kp_S (by decide) (kp_S (by decide) (kp_S (by decide) kp_r)))))))))) ?_
  exact hL15 _ 0 1 _ (Nat.lt_succ_self _) (by clear C hL15; refine ⟨by decide, by decide, st0 (w 501 0 0), by simp (decide := true) only [tA, tR, wB_o, wB_i, wS_s, wS_t, wS_a, ne_eq, Nat.reduceEqDiff, not_false_eq_true]; exact st0_ae _ _ _ _ _ _ _, hH.symm⟩)
