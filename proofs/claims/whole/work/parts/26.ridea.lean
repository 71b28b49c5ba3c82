abbrev P_X6_start (w : Wi) (z : Wj) (d : Nat) (g : Int32) (sp : Int32) (sn : Int32) : WW → Prop := fun u_ => u_ = ((wS (wS (wS (wS (wS (wS (wS w 580 d (fun _ => g)) 581 d (fun _ => sn)) 582 d (fun _ => 0)) 583 d (fun _ => 0)) 584 d (fun _ => sp)) 585 d (fun _ => 0)) 586 d (fun _ => sp)), z)
set_option maxHeartbeats 4000000 in
set_option maxRecDepth 100000 in
theorem c_X6_start (E : En) (hE : q_ok E) (w : Wi) (z : Wj) (d : Nat) (hi_d : d < 3) (g : Int32) (sp : Int32) (sn : Int32) : CtV M_X6_start E [.ref (E.ad 6 d), .int g, .int sp, .int sn] w z (P_X6_start w z d g sp sn) := by
  refine ctV_of (lv := [(0, .ref (E.ad 6 d)), (1, .int g), (2, .int sp), (3, .int sn)]) hE m_X6_start (Nat.le_of_ble_eq_true rfl) rfl ?_
  intro K A C0
  have C : Cx K E A cX6_start 4 RX6 none { frames := 0, cells := 0, slots := 0, locals := 0 } := C0
  clear C0
  refine v_aload_n C 0 dX6_start_0 rfl ?_
  refine v_iload_n C 1 dX6_start_1 rfl ?_
  refine v_pI C 6 d 0 580 (C_m C (u_6 d hi_d)) k_6 ty_6 (by decide) rfl ⟨rfl, rfl⟩ x_320 rfl rfl dX6_start_2 ?_
  refine v_aload_n C 0 dX6_start_5 rfl ?_
  refine v_iload_n C 3 dX6_start_6 rfl ?_
  refine v_pI C 6 d 1 581 (C_m C (u_6 d hi_d)) k_6 ty_6 (by decide) rfl ⟨rfl, rfl⟩ x_321 rfl rfl dX6_start_7 ?_
  refine v_aload_n C 0 dX6_start_10 rfl ?_
  refine v_iconst (v := 0) C dX6_start_11 (by decide) ?_
  refine v_pI C 6 d 2 582 (C_m C (u_6 d hi_d)) k_6 ty_6 (by decide) rfl ⟨rfl, rfl⟩ x_322 rfl rfl dX6_start_12 ?_
  refine v_aload_n C 0 dX6_start_15 rfl ?_
  refine v_iconst (v := 0) C dX6_start_16 (by decide) ?_
  refine v_pI C 6 d 3 583 (C_m C (u_6 d hi_d)) k_6 ty_6 (by decide) rfl ⟨rfl, rfl⟩ x_323 rfl rfl dX6_start_17 ?_
  refine v_aload_n C 0 dX6_start_20 rfl ?_
  refine v_iload_n C 2 dX6_start_21 rfl ?_
  refine v_pI C 6 d 4 584 (C_m C (u_6 d hi_d)) k_6 ty_6 (by decide) rfl ⟨rfl, rfl⟩ x_324 rfl rfl dX6_start_22 ?_
  refine v_aload_n C 0 dX6_start_25 rfl ?_
  refine v_iconst (v := 0) C dX6_start_26 (by decide) ?_
  refine v_pI C 6 d 5 585 (C_m C (u_6 d hi_d)) k_6 ty_6 (by decide) rfl ⟨rfl, rfl⟩ x_326 rfl rfl dX6_start_27 ?_
  refine v_aload_n C 0 dX6_start_30 rfl ?_
  refine v_iload_n C 2 dX6_start_31 rfl ?_
  refine v_pI C 6 d 6 586 (C_m C (u_6 d hi_d)) k_6 ty_6 (by decide) rfl ⟨rfl, rfl⟩ x_328 rfl rfl dX6_start_32 ?_
  exact v_vret C dX6_start_35 (congr (congrArg Prod.mk rfl) rfl)
abbrev P_X6_copyFrom (w : Wi) (z : Wj) (b : Nat) (d : Nat) : WW → Prop := fun u_ => u_ = ((wS (wS (wS (wS (wS (wS (wS w 580 d (fun _ => (w 580 b 0))) 581 d (fun _ => (w 581 b 0))) 582 d (fun _ => (w 582 b 0))) 583 d (fun _ => (w 583 b 0))) 584 d (fun _ => (w 584 b 0))) 585 d (fun _ => (w 585 b 0))) 586 d (fun _ => (w 586 b 0))), z)
set_option maxHeartbeats 4000000 in
set_option maxRecDepth 100000 in
theorem c_X6_copyFrom (E : En) (hE : q_ok E) (w : Wi) (z : Wj) (b : Nat) (hi_b : b < 3) (d : Nat) (hi_d : d < 3) : CtV M_X6_copyFrom E [.ref (E.ad 6 d), .ref (E.ad 6 b)] w z (P_X6_copyFrom w z b d) := by
  refine ctV_of (lv := [(0, .ref (E.ad 6 d)), (1, .ref (E.ad 6 b))]) hE m_X6_copyFrom (Nat.le_of_ble_eq_true rfl) rfl ?_
  intro K A C0
  have C : Cx K E A cX6_copyFrom 2 RX6 none { frames := 0, cells := 0, slots := 0, locals := 0 } := C0
  clear C0
  refine v_aload_n C 0 dX6_copyFrom_0 rfl ?_
  refine v_aload_n C 1 dX6_copyFrom_1 rfl ?_
  refine v_gI C 6 b 0 580 (w 580 b 0) (C_m C (u_6 b hi_b)) k_6 (by decide) rfl rfl x_320 rfl dX6_copyFrom_2 ?_
  refine v_pI C 6 d 0 580 (C_m C (u_6 d hi_d)) k_6 ty_6 (by decide) rfl ⟨rfl, rfl⟩ x_320 rfl rfl dX6_copyFrom_5 ?_
  refine v_aload_n C 0 dX6_copyFrom_8 rfl ?_
  refine v_aload_n C 1 dX6_copyFrom_9 rfl ?_
  refine v_gI C 6 b 1 581 (w 581 b 0) (C_m C (u_6 b hi_b)) k_6 (by decide) rfl rfl x_321 (by simp only [wS_s, wS_t, wS_a, ne_eq, Nat.reduceEqDiff, not_false_eq_true]) dX6_copyFrom_10 ?_
  refine v_pI C 6 d 1 581 (C_m C (u_6 d hi_d)) k_6 ty_6 (by decide) rfl ⟨rfl, rfl⟩ x_321 rfl rfl dX6_copyFrom_13 ?_
  refine v_aload_n C 0 dX6_copyFrom_16 rfl ?_
  refine v_aload_n C 1 dX6_copyFrom_17 rfl ?_
  refine v_gI C 6 b 2 582 (w 582 b 0) (C_m C (u_6 b hi_b)) k_6 (by decide) rfl rfl x_322 (by simp only [wS_s, wS_t, wS_a, ne_eq, Nat.reduceEqDiff, not_false_eq_true]) dX6_copyFrom_18 ?_
  refine v_pI C 6 d 2 582 (C_m C (u_6 d hi_d)) k_6 ty_6 (by decide) rfl ⟨rfl, rfl⟩ x_322 rfl rfl dX6_copyFrom_21 ?_
  refine v_aload_n C 0 dX6_copyFrom_24 rfl ?_
  refine v_aload_n C 1 dX6_copyFrom_25 rfl ?_
  refine v_gI C 6 b 3 583 (w 583 b 0) (C_m C (u_6 b hi_b)) k_6 (by decide) rfl rfl x_323 (by simp only [wS_s, wS_t, wS_a, ne_eq, Nat.reduceEqDiff, not_false_eq_true]) dX6_copyFrom_26 ?_
  refine v_pI C 6 d 3 583 (C_m C (u_6 d hi_d)) k_6 ty_6 (by decide) rfl ⟨rfl, rfl⟩ x_323 rfl rfl dX6_copyFrom_29 ?_
  refine v_aload_n C 0 dX6_copyFrom_32 rfl ?_
  refine v_aload_n C 1 dX6_copyFrom_33 rfl ?_
  refine v_gI C 6 b 4 584 (w 584 b 0) (C_m C (u_6 b hi_b)) k_6 (by decide) rfl rfl x_324 (by simp only [wS_s, wS_t, wS_a, ne_eq, Nat.reduceEqDiff, not_false_eq_true]) dX6_copyFrom_34 ?_
  refine v_pI C 6 d 4 584 (C_m C (u_6 d hi_d)) k_6 ty_6 (by decide) rfl ⟨rfl, rfl⟩ x_324 rfl rfl dX6_copyFrom_37 ?_
  refine v_aload_n C 0 dX6_copyFrom_40 rfl ?_
  refine v_aload_n C 1 dX6_copyFrom_41 rfl ?_
  refine v_gI C 6 b 5 585 (w 585 b 0) (C_m C (u_6 b hi_b)) k_6 (by decide) rfl rfl x_326 (by simp only [wS_s, wS_t, wS_a, ne_eq, Nat.reduceEqDiff, not_false_eq_true]) dX6_copyFrom_42 ?_
  refine v_pI C 6 d 5 585 (C_m C (u_6 d hi_d)) k_6 ty_6 (by decide) rfl ⟨rfl, rfl⟩ x_326 rfl rfl dX6_copyFrom_45 ?_
  refine v_aload_n C 0 dX6_copyFrom_48 rfl ?_
  refine v_aload_n C 1 dX6_copyFrom_49 rfl ?_
  refine v_gI C 6 b 6 586 (w 586 b 0) (C_m C (u_6 b hi_b)) k_6 (by decide) rfl rfl x_328 (by simp only [wS_s, wS_t, wS_a, ne_eq, Nat.reduceEqDiff, not_false_eq_true]) dX6_copyFrom_50 ?_
  refine v_pI C 6 d 6 586 (C_m C (u_6 d hi_d)) k_6 ty_6 (by decide) rfl ⟨rfl, rfl⟩ x_328 rfl rfl dX6_copyFrom_53 ?_
  exact v_vret C dX6_copyFrom_56 (congr (congrArg Prod.mk rfl) rfl)
abbrev P_X6_isStopped (w : Wi) (z : Wj) (d : Nat) : Int32 → WW → Prop := fun r_ u_ => r_ = (if (w 584 d 0) = 0 then 1 else 0) ∧ u_ = (w, z)
set_option maxHeartbeats 4000000 in
set_option maxRecDepth 100000 in
theorem c_X6_isStopped (E : En) (hE : q_ok E) (w : Wi) (z : Wj) (d : Nat) (hi_d : d < 3) : CtI M_X6_isStopped E [.ref (E.ad 6 d)] w z (P_X6_isStopped w z d) := by
  refine ctI_of (lv := [(0, .ref (E.ad 6 d))]) hE m_X6_isStopped (Nat.le_of_ble_eq_true rfl) rfl ?_
  intro K A C0
  have C : Cx K E A cX6_isStopped 1 RX6 (some .boolean) { frames := 0, cells := 0, slots := 0, locals := 0 } := C0
  clear C0
  refine v_aload_n C 0 dX6_isStopped_0 rfl ?_
  refine v_gI C 6 d 4 584 (w 584 d 0) (C_m C (u_6 d hi_d)) k_6 (by decide) rfl rfl x_324 rfl dX6_isStopped_1 ?_
  refine v_if_ne C 11 dX6_isStopped_4 (by decide) (fun c_4 => ?_) (fun c_4 => ?_)
  · refine v_iconst (v := 0) C dX6_isStopped_11 (by decide) ?_
    exact v_zret C dX6_isStopped_12 (by decide) ⟨(by clear C; grind), (congr (congrArg Prod.mk rfl) rfl)⟩
  · refine v_iconst (v := 1) C dX6_isStopped_7 (by decide) ?_
    refine v_goto C 12 dX6_isStopped_8 (by decide) ?_
    exact v_zret C dX6_isStopped_12 (by decide) ⟨(by clear C; grind), (congr (congrArg Prod.mk rfl) rfl)⟩
abbrev P_X6_isWithin (w : Wi) (z : Wj) (d : Nat) (lim : Int32) : Int32 → WW → Prop := fun r_ u_ => r_ = (if (w 583 d 0) ≤ lim then 1 else 0) ∧ u_ = (w, z)
set_option maxHeartbeats 4000000 in
set_option maxRecDepth 100000 in
theorem c_X6_isWithin (E : En) (hE : q_ok E) (w : Wi) (z : Wj) (d : Nat) (hi_d : d < 3) (lim : Int32) : CtI M_X6_isWithin E [.ref (E.ad 6 d), .int lim] w z (P_X6_isWithin w z d lim) := by
  refine ctI_of (lv := [(0, .ref (E.ad 6 d)), (1, .int lim)]) hE m_X6_isWithin (Nat.le_of_ble_eq_true rfl) rfl ?_
  intro K A C0
  have C : Cx K E A cX6_isWithin 2 RX6 (some .boolean) { frames := 0, cells := 0, slots := 0, locals := 0 } := C0
  clear C0
  refine v_aload_n C 0 dX6_isWithin_0 rfl ?_
  refine v_gI C 6 d 3 583 (w 583 d 0) (C_m C (u_6 d hi_d)) k_6 (by decide) rfl rfl x_323 rfl dX6_isWithin_1 ?_
  refine v_iload_n C 1 dX6_isWithin_4 rfl ?_
  refine v_ic_gt C 12 dX6_isWithin_5 (by decide) (fun c_5 => ?_) (fun c_5 => ?_)
  · refine v_iconst (v := 0) C dX6_isWithin_12 (by decide) ?_
    exact v_zret C dX6_isWithin_13 (by decide) ⟨(by clear C; grind), (congr (congrArg Prod.mk rfl) rfl)⟩
  · refine v_iconst (v := 1) C dX6_isWithin_8 (by decide) ?_
    refine v_goto C 13 dX6_isWithin_9 (by decide) ?_
    exact v_zret C dX6_isWithin_13 (by decide) ⟨(by clear C; grind), (congr (congrArg Prod.mk rfl) rfl)⟩
abbrev P_X6_gainBy (w : Wi) (z : Wj) (a : Nat) (d : Nat) (r : Nat) : Int32 → WW → Prop := fun r_ u_ => r_ = (gainF (wsum (w 31 r) ((w 500 r 0) + 1).toNatClampNeg) (w 580 d 0) (brkR (w 32 r) (w 16 a) (w 581 d 0) ((w 500 r 0) + 1).toNatClampNeg)) ∧ u_ = (w, z)
set_option maxHeartbeats 4000000 in
set_option maxRecDepth 100000 in
theorem c_X6_gainBy (E : En) (hE : q_ok E) (w : Wi) (z : Wj) (a : Nat) (hi_a : a < 4) (d : Nat) (hi_d : d < 3) (r : Nat) (hi_r : r < 4) (h1 : 0 ≤ (w 500 r 0)) (h2 : (w 500 r 0) ≤ 16) : CtI M_X6_gainBy E [.ref (E.ad 6 d), .ref (E.ad 5 r), .ref (E.ad 0 a)] w z (P_X6_gainBy w z a d r) := by
  refine ctI_of (lv := [(0, .ref (E.ad 6 d)), (1, .ref (E.ad 5 r)), (2, .ref (E.ad 0 a))]) hE m_X6_gainBy (Nat.le_of_ble_eq_true rfl) rfl ?_
  intro K A C0
  have C : Cx K E A cX6_gainBy 6 RX6 (some .int) { frames := 1, cells := 0, slots := 0, locals := 22 } := C0
  clear C0
  refine v_aload_n C 1 dX6_gainBy_0 rfl ?_
  refine v_vI C 5 r [] 0 (c_X5_wholeWeight E hE _ _ r hi_r   (by clear C; first | assumption | grind) (by clear C; first | assumption | grind)) m_X5_wholeWeight x_871 x_872 x_873 p_X5_wholeWeight rfl ⟨Nat.le_of_ble_eq_true rfl, Nat.le_of_ble_eq_true rfl⟩ (C_m C (u_5 r hi_r)) k_5 rfl (Nat.le_of_ble_eq_true rfl) dX6_gainBy_1 (fun r1 u1 v1 hp1 => ?_)
  obtain ⟨hr1, hu1⟩ := hp1
  subst hr1
  cases hu1
  refine v_istore_n (lv2 := [(3, .int (wsum (w 31 r) ((w 500 r 0) + 1).toNatClampNeg)), (0, .ref (E.ad 6 d)), (1, .ref (E.ad 5 r)), (2, .ref (E.ad 0 a))]) C dX6_gainBy_4 rfl (by decide) rfl ?_
  refine v_iconst (v := 0) C dX6_gainBy_5 (by decide) ?_
  refine v_istore (lv2 := [(4, .int 0), (3, .int (wsum (w 31 r) ((w 500 r 0) + 1).toNatClampNeg)), (0, .ref (E.ad 6 d)), (1, .ref (E.ad 5 r)), (2, .ref (E.ad 0 a))]) C dX6_gainBy_6 (by decide) rfl ?_
  refine v_iconst (v := 1) C dX6_gainBy_8 (by decide) ?_
  refine v_istore (lv2 := [(5, .int 1), (4, .int 0), (3, .int (wsum (w 31 r) ((w 500 r 0) + 1).toNatClampNeg)), (0, .ref (E.ad 6 d)), (1, .ref (E.ad 5 r)), (2, .ref (E.ad 0 a))]) C dX6_gainBy_9 (by decide) rfl ?_
  have hL11 : ∀ (n_ : Nat) (b : Int32) (i : Int32), (17 - i).toNatClampNeg < n_ → (1 ≤ i ∧ i ≤ (w 500 r 0) + 1 ∧ b = brkR (w 32 r) (w 16 a) (w 581 d 0) i.toNatClampNeg) → V K E A 6 (QI K E A (P_X6_gainBy w z a d r)) 11 [(5, .int i), (4, .int b), (3, .int (wsum (w 31 r) ((w 500 r 0) + 1).toNatClampNeg)), (0, .ref (E.ad 6 d)), (1, .ref (E.ad 5 r)), (2, .ref (E.ad 0 a))] [] w z := by
    intro n_
    induction n_ with
    | zero => intro b i hm_; exact absurd hm_ (Nat.not_lt_zero _)
    | succ n_ ih_11 =>
      intro b i hm_ hinv
      obtain ⟨g1, g2, g3⟩ := hinv
      refine v_iload C 0 dX6_gainBy_11 rfl ?_
      refine v_aload_n C 4 dX6_gainBy_13 rfl ?_
      refine v_gI C 5 r 0 500 (w 500 r 0) (C_m C (u_5 r hi_r)) k_5 (by decide) rfl rfl x_172 rfl dX6_gainBy_14 ?_
      refine v_ic_gt C 66 dX6_gainBy_17 (by decide) (fun c_17 => ?_) (fun c_17 => ?_)
      · refine v_iload_n C 2 dX6_gainBy_66 rfl ?_
        refine v_if_le C 86 dX6_gainBy_67 (by decide) (fun c_67 => ?_) (fun c_67 => ?_)
        · refine v_iconst (v := 0) C dX6_gainBy_86 (by decide) ?_
          exact v_iret C dX6_gainBy_87 ⟨(by clear C ih_11; have hi : i = (w 500 r 0) + 1 := (by grind); subst hi; subst g3; simp only [gainF]; first | rw [if_pos (Int32.not_le.mp c_67)] | rw [if_neg (Int32.not_lt.mpr c_67)]), (congr (congrArg Prod.mk rfl) rfl)⟩
        · refine v_iload_n C 2 dX6_gainBy_70 rfl ?_
          refine v_aload_n C 3 dX6_gainBy_71 rfl ?_
          refine v_gI C 6 d 0 580 (w 580 d 0) (C_m C (u_6 d hi_d)) k_6 (by decide) rfl rfl x_320 rfl dX6_gainBy_72 ?_
          refine v_imul C dX6_gainBy_75 ?_
          refine v_iconst (v := 4) C dX6_gainBy_76 (by decide) ?_
          refine v_iload C 1 dX6_gainBy_77 rfl ?_
          refine v_imul C dX6_gainBy_79 ?_
          refine v_isub C dX6_gainBy_80 ?_
          refine v_iload_n C 2 dX6_gainBy_81 rfl ?_
          refine v_idiv C dX6_gainBy_82 (by intro h0; rw [h0] at c_67; exact absurd c_67 (by decide)) ?_
          refine v_goto C 87 dX6_gainBy_83 (by decide) ?_
          exact v_iret C dX6_gainBy_87 ⟨(by clear C ih_11; have hi : i = (w 500 r 0) + 1 := (by grind); subst hi; subst g3; simp only [gainF]; first | rw [if_pos (Int32.not_le.mp c_67)] | rw [if_neg (Int32.not_lt.mpr c_67)]), (congr (congrArg Prod.mk rfl) rfl)⟩
      · refine v_iload C 0 dX6_gainBy_20 rfl ?_
        refine v_bipush (v := 17) C dX6_gainBy_22 (by decide) ?_
        refine v_ic_ge C 66 dX6_gainBy_24 (by decide) (fun c_24 => absurd c_24 (by clear C ih_11; grind)) (fun c_24 => ?_)
        refine v_aload_n C 4 dX6_gainBy_27 rfl ?_
        refine v_gR C 5 r 5 32 r (C_m C (u_5 r hi_r)) k_5 (by decide) x_185 (fun _ _ _ => rfl) dX6_gainBy_28 ?_
        refine v_iload C 0 dX6_gainBy_31 rfl ?_
        refine v_iald C 32 r (C_m C (u_32 r hi_r)) ⟨by decide, rfl, rfl⟩ (v_in (N := 17) (by decide) (by clear C ih_11; grind) (by clear C ih_11; grind)) dX6_gainBy_33 ?_
        refine v_if_ne C 60 dX6_gainBy_34 (by decide) (fun c_34 => ?_) (fun c_34 => ?_)
        · refine v_iinc (v := i + 1) (lv2 := [(5, .int (i + 1)), (4, .int b), (3, .int (wsum (w 31 r) ((w 500 r 0) + 1).toNatClampNeg)), (0, .ref (E.ad 6 d)), (1, .ref (E.ad 5 r)), (2, .ref (E.ad 0 a))]) C 0 dX6_gainBy_60 rfl rfl (by decide) rfl ?_
          refine v_goto C 11 dX6_gainBy_63 (by decide) ?_
          exact ih_11 b (i + 1) (by clear C ih_11; exact Nat.lt_of_lt_of_le (m_up (by grind) (by grind)) (Nat.le_of_lt_succ hm_)) (by clear C ih_11; exact ⟨by grind, by grind, by rw [cl_succ (by grind) (by grind), brkR_s _ _ _ (cl_pos g1)]; grind⟩)
        · refine v_iload C 1 dX6_gainBy_37 rfl ?_
          refine v_aload_n C 5 dX6_gainBy_39 rfl ?_
          refine v_gR C 0 a 3 16 a (C_m C (u_0 a hi_a)) k_0 (by decide) x_285 (fun _ _ _ => rfl) dX6_gainBy_40 ?_
          refine v_iload C 0 dX6_gainBy_43 rfl ?_
          refine v_iald C 16 a (C_m C (u_16 a hi_a)) ⟨by decide, rfl, rfl⟩ (v_in (N := 17) (by decide) (by clear C ih_11; grind) (by clear C ih_11; grind)) dX6_gainBy_45 ?_
          refine v_bipush (v := 100) C dX6_gainBy_46 (by decide) ?_
          refine v_aload_n C 3 dX6_gainBy_48 rfl ?_
          refine v_gI C 6 d 1 581 (w 581 d 0) (C_m C (u_6 d hi_d)) k_6 (by decide) rfl rfl x_321 rfl dX6_gainBy_49 ?_
          refine v_isub C dX6_gainBy_52 ?_
          refine v_imul C dX6_gainBy_53 ?_
          refine v_bipush (v := 100) C dX6_gainBy_54 (by decide) ?_
          refine v_idiv C dX6_gainBy_56 (by decide) ?_
          refine v_iadd C dX6_gainBy_57 ?_
          refine v_istore (lv2 := [(4, .int (b + ((((w 16 a) i.toNatClampNeg) * (100 - (w 581 d 0))) / 100))), (5, .int i), (3, .int (wsum (w 31 r) ((w 500 r 0) + 1).toNatClampNeg)), (0, .ref (E.ad 6 d)), (1, .ref (E.ad 5 r)), (2, .ref (E.ad 0 a))]) C dX6_gainBy_58 (by decide) rfl ?_
          refine v_iinc (v := i + 1) (lv2 := [(5, .int (i + 1)), (4, .int (b + ((((w 16 a) i.toNatClampNeg) * (100 - (w 581 d 0))) / 100))), (3, .int (wsum (w 31 r) ((w 500 r 0) + 1).toNatClampNeg)), (0, .ref (E.ad 6 d)), (1, .ref (E.ad 5 r)), (2, .ref (E.ad 0 a))]) C 1 dX6_gainBy_60 rfl rfl (by decide) rfl ?_
          refine v_goto C 11 dX6_gainBy_63 (by decide) ?_
          exact ih_11 (b + ((((w 16 a) i.toNatClampNeg) * (100 - (w 581 d 0))) / 100)) (i + 1) (by clear C ih_11; exact Nat.lt_of_lt_of_le (m_up (by grind) (by grind)) (Nat.le_of_lt_succ hm_)) (by clear C ih_11; exact ⟨by grind, by grind, by rw [cl_succ (by grind) (by grind), brkR_s _ _ _ (cl_pos g1)]; grind⟩)
  exact hL11 _ 0 1 (Nat.lt_succ_self _) (by clear C hL11; exact ⟨by decide, by grind, rfl⟩)
abbrev P_X6_roll (w : Wi) (z : Wj) (a : Nat) (d : Nat) (r : Nat) : WW → Prop := fun u_ => u_ = ((wS (wS (wS (wS (wS w 582 d (fun _ => (rollF ((w 500 r 0), (w 501 r 0), (w 502 r 0), (w 30 r), (w 32 r), (w 33 r), (w 34 r), (w 35 r), (w 36 r)) (w 31 r) (w 16 a) (w 109 a 0) ((w 580 d 0), (w 581 d 0), (w 582 d 0), (w 583 d 0), (w 584 d 0), (w 585 d 0), (w 586 d 0))).2.2.1)) 583 d (fun _ => (rollF ((w 500 r 0), (w 501 r 0), (w 502 r 0), (w 30 r), (w 32 r), (w 33 r), (w 34 r), (w 35 r), (w 36 r)) (w 31 r) (w 16 a) (w 109 a 0) ((w 580 d 0), (w 581 d 0), (w 582 d 0), (w 583 d 0), (w 584 d 0), (w 585 d 0), (w 586 d 0))).2.2.2.1)) 584 d (fun _ => (rollF ((w 500 r 0), (w 501 r 0), (w 502 r 0), (w 30 r), (w 32 r), (w 33 r), (w 34 r), (w 35 r), (w 36 r)) (w 31 r) (w 16 a) (w 109 a 0) ((w 580 d 0), (w 581 d 0), (w 582 d 0), (w 583 d 0), (w 584 d 0), (w 585 d 0), (w 586 d 0))).2.2.2.2.1)) 585 d (fun _ => (rollF ((w 500 r 0), (w 501 r 0), (w 502 r 0), (w 30 r), (w 32 r), (w 33 r), (w 34 r), (w 35 r), (w 36 r)) (w 31 r) (w 16 a) (w 109 a 0) ((w 580 d 0), (w 581 d 0), (w 582 d 0), (w 583 d 0), (w 584 d 0), (w 585 d 0), (w 586 d 0))).2.2.2.2.2.1)) 586 d (fun _ => (rollF ((w 500 r 0), (w 501 r 0), (w 502 r 0), (w 30 r), (w 32 r), (w 33 r), (w 34 r), (w 35 r), (w 36 r)) (w 31 r) (w 16 a) (w 109 a 0) ((w 580 d 0), (w 581 d 0), (w 582 d 0), (w 583 d 0), (w 584 d 0), (w 585 d 0), (w 586 d 0))).2.2.2.2.2.2)), z)
set_option maxHeartbeats 4000000 in
set_option maxRecDepth 100000 in
theorem c_X6_roll (E : En) (hE : q_ok E) (w : Wi) (z : Wj) (a : Nat) (hi_a : a < 4) (d : Nat) (hi_d : d < 3) (r : Nat) (hi_r : r < 4) (h1 : 0 ≤ (w 500 r 0)) (h2 : (w 500 r 0) ≤ 16) : CtV M_X6_roll E [.ref (E.ad 6 d), .ref (E.ad 5 r), .ref (E.ad 0 a)] w z (P_X6_roll w z a d r) := by
  refine ctV_of (lv := [(0, .ref (E.ad 6 d)), (1, .ref (E.ad 5 r)), (2, .ref (E.ad 0 a))]) hE m_X6_roll (Nat.le_of_ble_eq_true rfl) rfl ?_
  intro K A C0
  have C : Cx K E A cX6_roll 3 RX6 none { frames := 2, cells := 0, slots := 0, locals := 47 } := C0
  clear C0
  have hL24 : ∀ (gn : Int32), (gn = (if (w 585 d 0) = 0 ∨ (w 109 a 0) = 0 then gainF (wsum (w 31 r) ((w 500 r 0) + 1).toNatClampNeg) (w 580 d 0) (brkR (w 32 r) (w 16 a) (w 581 d 0) ((w 500 r 0) + 1).toNatClampNeg) else (w 582 d 0))) → V K E A 3 (QV K E A (P_X6_roll w z a d r)) 24 [(0, .ref (E.ad 6 d)), (1, .ref (E.ad 5 r)), (2, .ref (E.ad 0 a))] [] (wS w 582 d (fun _ => gn)) z := by
    intro gn hinv
    have hg := hinv
    refine v_aload_n C 0 dX6_roll_24 rfl ?_
    refine v_dup C dX6_roll_25 rfl ?_
    refine v_gI C 6 d 5 585 (w 585 d 0) (C_m C (u_6 d hi_d)) k_6 (by decide) rfl rfl x_326 (by simp only [wS_s, wS_t, wS_a, ne_eq, Nat.reduceEqDiff, not_false_eq_true]) dX6_roll_26 ?_
    refine v_iconst (v := 1) C dX6_roll_29 (by decide) ?_
    refine v_iadd C dX6_roll_30 ?_
    refine v_pI C 6 d 5 585 (C_m C (u_6 d hi_d)) k_6 ty_6 (by decide) rfl ⟨rfl, rfl⟩ x_326 rfl rfl dX6_roll_31 ?_
    refine v_aload_n C 0 dX6_roll_34 rfl ?_
    refine v_iconst (v := 0) C dX6_roll_35 (by decide) ?_
    refine v_aload_n C 0 dX6_roll_36 rfl ?_
    refine v_gI C 6 d 4 584 (w 584 d 0) (C_m C (u_6 d hi_d)) k_6 (by decide) rfl rfl x_324 (by simp only [wS_s, wS_t, wS_a, ne_eq, Nat.reduceEqDiff, not_false_eq_true]) dX6_roll_37 ?_
    refine v_aload_n C 0 dX6_roll_40 rfl ?_
    refine v_gI C 6 d 2 582 gn (C_m C (u_6 d hi_d)) k_6 (by decide) rfl rfl x_322 (by simp only [wS_s, wS_t, wS_a, ne_eq, Nat.reduceEqDiff, not_false_eq_true]) dX6_roll_41 ?_
    refine v_iadd C dX6_roll_44 ?_
    refine v_mmax C x_875 x_592 x_85 x_593 ⟨by decide, Nat.le_of_ble_eq_true rfl⟩ dX6_roll_45 ?_
    refine v_pI C 6 d 4 584 (C_m C (u_6 d hi_d)) k_6 ty_6 (by decide) rfl ⟨rfl, rfl⟩ x_324 rfl rfl dX6_roll_48 ?_
    refine v_aload_n C 0 dX6_roll_51 rfl ?_
    refine v_aload_n C 0 dX6_roll_52 rfl ?_
    refine v_gI C 6 d 6 586 (w 586 d 0) (C_m C (u_6 d hi_d)) k_6 (by decide) rfl rfl x_328 (by simp only [wS_s, wS_t, wS_a, ne_eq, Nat.reduceEqDiff, not_false_eq_true]) dX6_roll_53 ?_
    refine v_aload_n C 0 dX6_roll_56 rfl ?_
    refine v_gI C 6 d 4 584 (if 0 < ((w 584 d 0) + gn) then ((w 584 d 0) + gn) else 0) (C_m C (u_6 d hi_d)) k_6 (by decide) rfl rfl x_324 (by simp only [wS_s, wS_t, wS_a, ne_eq, Nat.reduceEqDiff, not_false_eq_true]) dX6_roll_57 ?_
    refine v_mmax C x_875 x_592 x_85 x_593 ⟨by decide, Nat.le_of_ble_eq_true rfl⟩ dX6_roll_60 ?_
    refine v_pI C 6 d 6 586 (C_m C (u_6 d hi_d)) k_6 ty_6 (by decide) rfl ⟨rfl, rfl⟩ x_328 rfl rfl dX6_roll_63 ?_
    refine v_aload_n C 0 dX6_roll_66 rfl ?_
    refine v_dup C dX6_roll_67 rfl ?_
    refine v_gI C 6 d 3 583 (w 583 d 0) (C_m C (u_6 d hi_d)) k_6 (by decide) rfl rfl x_323 (by simp only [wS_s, wS_t, wS_a, ne_eq, Nat.reduceEqDiff, not_false_eq_true]) dX6_roll_68 ?_
    refine v_aload_n C 0 dX6_roll_71 rfl ?_
    refine v_gI C 6 d 4 584 (if 0 < ((w 584 d 0) + gn) then ((w 584 d 0) + gn) else 0) (C_m C (u_6 d hi_d)) k_6 (by decide) rfl rfl x_324 (by simp only [wS_s, wS_t, wS_a, ne_eq, Nat.reduceEqDiff, not_false_eq_true]) dX6_roll_72 ?_
    refine v_iadd C dX6_roll_75 ?_
    refine v_pI C 6 d 3 583 (C_m C (u_6 d hi_d)) k_6 ty_6 (by decide) rfl ⟨rfl, rfl⟩ x_323 rfl rfl dX6_roll_76 ?_
    refine v_w (w2 := (wS (wS (wS (wS (wS w 582 d (fun _ => gn)) 583 d (fun _ => ((w 583 d 0) + (if 0 < ((w 584 d 0) + gn) then ((w 584 d 0) + gn) else 0)))) 584 d (fun _ => (if 0 < ((w 584 d 0) + gn) then ((w 584 d 0) + gn) else 0))) 585 d (fun _ => ((w 585 d 0) + 1))) 586 d (fun _ => (if (w 586 d 0) < (if 0 < ((w 584 d 0) + gn) then ((w 584 d 0) + gn) else 0) then (if 0 < ((w 584 d 0) + gn) then ((w 584 d 0) + gn) else 0) else (w 586 d 0))))) (by simp only [wS_s, wS_t, wS_a, ne_eq, Nat.reduceEqDiff, not_false_eq_true, wS_wS, wS_p, wS_pp, Nat.reduceLT, id_eq]) ?_
    exact v_vret C dX6_roll_79 (congr (congrArg Prod.mk (wS_eq (wS_eq (wS_eq (wS_eq (wS_eq rfl (fu_eq (by clear C; simp only [rollF]; first | done | rw [← hg]))) (fu_eq (by clear C; simp only [rollF]; first | done | rw [← hg]))) (fu_eq (by clear C; simp only [rollF]; first | done | rw [← hg]))) (fu_eq (by clear C; simp only [rollF]; first | done | rw [← hg]))) (fu_eq (by clear C; simp only [rollF]; first | done | rw [← hg])))) rfl)
  refine v_aload_n C 0 dX6_roll_0 rfl ?_
  refine v_gI C 6 d 5 585 (w 585 d 0) (C_m C (u_6 d hi_d)) k_6 (by decide) rfl rfl x_326 rfl dX6_roll_1 ?_
  refine v_if_eq C 14 dX6_roll_4 (by decide) (fun c_4 => ?_) (fun c_4 => ?_)
  · refine v_aload_n C 0 dX6_roll_14 rfl ?_
    refine v_aload_n C 0 dX6_roll_15 rfl ?_
    refine v_aload_n C 1 dX6_roll_16 rfl ?_
    refine v_aload_n C 2 dX6_roll_17 rfl ?_
    refine v_vI C 6 d [.ref (E.ad 5 r), .ref (E.ad 0 a)] 2 (c_X6_gainBy E hE _ _ a hi_a d hi_d r hi_r   (by clear C hL24; first | assumption | grind) (by clear C hL24; first | assumption | grind)) m_X6_gainBy x_867 x_869 x_14 p_X6_gainBy rfl ⟨Nat.le_of_ble_eq_true rfl, Nat.le_of_ble_eq_true rfl⟩ (C_m C (u_6 d hi_d)) k_6 rfl (Nat.le_of_ble_eq_true rfl) dX6_roll_18 (fun r1 u1 v1 hp1 => ?_)
    obtain ⟨hr1, hu1⟩ := hp1
    subst hr1
    cases hu1
    refine v_pI C 6 d 2 582 (C_m C (u_6 d hi_d)) k_6 ty_6 (by decide) rfl ⟨rfl, rfl⟩ x_322 rfl rfl dX6_roll_21 ?_
    exact hL24 (gainF (wsum (w 31 r) ((w 500 r 0) + 1).toNatClampNeg) (w 580 d 0) (brkR (w 32 r) (w 16 a) (w 581 d 0) ((w 500 r 0) + 1).toNatClampNeg)) (by clear C hL24; grind)
  · refine v_aload_n C 2 dX6_roll_7 rfl ?_
    refine v_gI C 0 a 9 109 (w 109 a 0) (C_m C (u_0 a hi_a)) k_0 (by decide) rfl rfl x_292 rfl dX6_roll_8 ?_
    refine v_if_ne C 24 dX6_roll_11 (by decide) (fun c_11 => ?_) (fun c_11 => ?_)
    · refine v_tS C 582 d (by decide) ?_
      refine v_w (w2 := (wS w 582 d (fun _ => (w 582 d 0)))) (by simp only [wS_s, wS_t, wS_a, ne_eq, Nat.reduceEqDiff, not_false_eq_true, wS_wS, wS_p, wS_pp, Nat.reduceLT, id_eq]) ?_
      exact hL24 (w 582 d 0) (by clear C hL24; grind)
    · refine v_aload_n C 0 dX6_roll_14 rfl ?_
      refine v_aload_n C 0 dX6_roll_15 rfl ?_
      refine v_aload_n C 1 dX6_roll_16 rfl ?_
      refine v_aload_n C 2 dX6_roll_17 rfl ?_
      refine v_vI C 6 d [.ref (E.ad 5 r), .ref (E.ad 0 a)] 2 (c_X6_gainBy E hE _ _ a hi_a d hi_d r hi_r   (by clear C hL24; first | assumption | grind) (by clear C hL24; first | assumption | grind)) m_X6_gainBy x_867 x_869 x_14 p_X6_gainBy rfl ⟨Nat.le_of_ble_eq_true rfl, Nat.le_of_ble_eq_true rfl⟩ (C_m C (u_6 d hi_d)) k_6 rfl (Nat.le_of_ble_eq_true rfl) dX6_roll_18 (fun r2 u2 v2 hp2 => ?_)
      obtain ⟨hr2, hu2⟩ := hp2
      subst hr2
      cases hu2
      refine v_pI C 6 d 2 582 (C_m C (u_6 d hi_d)) k_6 ty_6 (by decide) rfl ⟨rfl, rfl⟩ x_322 rfl rfl dX6_roll_21 ?_
      exact hL24 (gainF (wsum (w 31 r) ((w 500 r 0) + 1).toNatClampNeg) (w 580 d 0) (brkR (w 32 r) (w 16 a) (w 581 d 0) ((w 500 r 0) + 1).toNatClampNeg)) (by clear C hL24; grind)
