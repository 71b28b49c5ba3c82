abbrev P_X0_work (w : Wi) (z : Wj) (a : Nat) (r : Nat) (act : Int32) (am : Int32) (ce : Int32) : WW → Prop := fun u_ => u_ = ((wS w 13 a (workF (w 501 r 0) (w 502 r 0) (w 13 a) act am ce)), z)
set_option maxHeartbeats 4000000 in
set_option maxRecDepth 100000 in
theorem c_X0_work (E : En) (hE : q_ok E) (w : Wi) (z : Wj) (a : Nat) (hi_a : a < 4) (r : Nat) (hi_r : r < 4) (act : Int32) (am : Int32) (ce : Int32) : CtV M_X0_work E [.ref (E.ad 0 a), .ref (E.ad 5 r), .int act, .int am, .int ce] w z (P_X0_work w z a r act am ce) := by
  refine ctV_of (lv := [(0, .ref (E.ad 0 a)), (1, .ref (E.ad 5 r)), (2, .int act), (3, .int am), (4, .int ce)]) hE m_X0_work (Nat.le_of_ble_eq_true rfl) rfl ?_
  intro K A C0
  have C : Cx K E A cX0_work 5 RX0 none { frames := 1, cells := 0, slots := 0, locals := 21 } := C0
  clear C0
  refine v_iload C 4 dX0_work_0 rfl ?_
  refine v_if_lt C 12 dX0_work_2 (by decide) (fun c_2 => ?_) (fun c_2 => ?_)
  · refine v_w (wS_id _ 13 a).symm ?_
    refine v_w (w2 := (wS w 13 a (w 13 a))) (by simp only [wS_s, wS_t, wS_a, ne_eq, Nat.reduceEqDiff, not_false_eq_true, wS_wS, wS_p, wS_pp, Nat.reduceLT, id_eq]) ?_
    exact v_vret C dX0_work_12 (congr (congrArg Prod.mk (wS_eq rfl (by clear C; simp only [workF]; grind))) rfl)
  · refine v_iload C 4 dX0_work_5 rfl ?_
    refine v_bipush (v := 17) C dX0_work_7 (by decide) ?_
    refine v_ic_lt C 13 dX0_work_9 (by decide) (fun c_9 => ?_) (fun c_9 => ?_)
    · refine v_iload_n C 2 dX0_work_13 rfl ?_
      refine v_if_ne C 60 dX0_work_14 (by decide) (fun c_14 => ?_) (fun c_14 => ?_)
      · refine v_iload_n C 2 dX0_work_60 rfl ?_
        refine v_iconst (v := 2) C dX0_work_61 (by decide) ?_
        refine v_ic_ne C 88 dX0_work_62 (by decide) (fun c_62 => ?_) (fun c_62 => ?_)
        · refine v_iload_n C 2 dX0_work_88 rfl ?_
          refine v_iconst (v := 3) C dX0_work_89 (by decide) ?_
          refine v_ic_ne C 101 dX0_work_90 (by decide) (fun c_90 => ?_) (fun c_90 => ?_)
          · refine v_w (wS_id _ 13 a).symm ?_
            refine v_w (w2 := (wS w 13 a (w 13 a))) (by simp only [wS_s, wS_t, wS_a, ne_eq, Nat.reduceEqDiff, not_false_eq_true, wS_wS, wS_p, wS_pp, Nat.reduceLT, id_eq]) ?_
            exact v_vret C dX0_work_101 (congr (congrArg Prod.mk (wS_eq rfl (by clear C; simp only [workF]; grind))) rfl)
          · refine v_aload_n C 0 dX0_work_93 rfl ?_
            refine v_gR C 0 a 0 13 a (C_m C (u_0 a hi_a)) k_0 (by decide) x_281 (fun _ _ _ => rfl) dX0_work_94 ?_
            refine v_iload C 4 dX0_work_97 rfl ?_
            refine v_iconst (v := 0) C dX0_work_99 (by decide) ?_
            refine v_iast C 13 a (C_m C (u_13 a hi_a)) ⟨by decide, rfl, rfl⟩ (v_in (N := 17) (by decide) (by clear C; grind) (by clear C; grind)) dX0_work_100 ?_
            exact v_vret C dX0_work_101 (congr (congrArg Prod.mk (wS_eq rfl (by clear C; simp only [workF]; grind))) rfl)
        · refine v_aload_n C 0 dX0_work_65 rfl ?_
          refine v_gR C 0 a 0 13 a (C_m C (u_0 a hi_a)) k_0 (by decide) x_281 (fun _ _ _ => rfl) dX0_work_66 ?_
          refine v_iload C 4 dX0_work_69 rfl ?_
          refine v_iconst (v := 0) C dX0_work_71 (by decide) ?_
          refine v_aload_n C 0 dX0_work_72 rfl ?_
          refine v_gR C 0 a 0 13 a (C_m C (u_0 a hi_a)) k_0 (by decide) x_281 (fun _ _ _ => rfl) dX0_work_73 ?_
          refine v_iload C 4 dX0_work_76 rfl ?_
          refine v_iald C 13 a (C_m C (u_13 a hi_a)) ⟨by decide, rfl, rfl⟩ (v_in (N := 17) (by decide) (by clear C; grind) (by clear C; grind)) dX0_work_78 ?_
          refine v_iload_n C 3 dX0_work_79 rfl ?_
          refine v_isub C dX0_work_80 ?_
          refine v_mmax C x_813 x_592 x_85 x_593 ⟨by decide, Nat.le_of_ble_eq_true rfl⟩ dX0_work_81 ?_
          refine v_iast C 13 a (C_m C (u_13 a hi_a)) ⟨by decide, rfl, rfl⟩ (v_in (N := 17) (by decide) (by clear C; grind) (by clear C; grind)) dX0_work_84 ?_
          refine v_goto C 101 dX0_work_85 (by decide) ?_
          exact v_vret C dX0_work_101 (congr (congrArg Prod.mk (wS_eq rfl (by clear C; simp only [workF]; grind))) rfl)
      · refine v_aload_n C 0 dX0_work_17 rfl ?_
        refine v_gR C 0 a 0 13 a (C_m C (u_0 a hi_a)) k_0 (by decide) x_281 (fun _ _ _ => rfl) dX0_work_18 ?_
        refine v_iload C 4 dX0_work_21 rfl ?_
        refine v_iald C 13 a (C_m C (u_13 a hi_a)) ⟨by decide, rfl, rfl⟩ (v_in (N := 17) (by decide) (by clear C; grind) (by clear C; grind)) dX0_work_23 ?_
        refine v_aload_n C 1 dX0_work_24 rfl ?_
        refine v_gI C 5 r 1 501 (w 501 r 0) (C_m C (u_5 r hi_r)) k_5 (by decide) rfl rfl x_176 rfl dX0_work_25 ?_
        refine v_ic_ge C 60 dX0_work_28 (by decide) (fun c_28 => ?_) (fun c_28 => ?_)
        · refine v_iload_n C 2 dX0_work_60 rfl ?_
          refine v_iconst (v := 2) C dX0_work_61 (by decide) ?_
          refine v_ic_ne C 88 dX0_work_62 (by decide) (fun c_62 => ?_) (fun c_62 => ?_)
          · refine v_iload_n C 2 dX0_work_88 rfl ?_
            refine v_iconst (v := 3) C dX0_work_89 (by decide) ?_
            refine v_ic_ne C 101 dX0_work_90 (by decide) (fun c_90 => ?_) (fun c_90 => ?_)
            · refine v_w (wS_id _ 13 a).symm ?_
              refine v_w (w2 := (wS w 13 a (w 13 a))) (by simp only [wS_s, wS_t, wS_a, ne_eq, Nat.reduceEqDiff, not_false_eq_true, wS_wS, wS_p, wS_pp, Nat.reduceLT, id_eq]) ?_
              exact v_vret C dX0_work_101 (congr (congrArg Prod.mk (wS_eq rfl (by clear C; simp only [workF]; grind))) rfl)
            · refine v_aload_n C 0 dX0_work_93 rfl ?_
              refine v_gR C 0 a 0 13 a (C_m C (u_0 a hi_a)) k_0 (by decide) x_281 (fun _ _ _ => rfl) dX0_work_94 ?_
              refine v_iload C 4 dX0_work_97 rfl ?_
              refine v_iconst (v := 0) C dX0_work_99 (by decide) ?_
              refine v_iast C 13 a (C_m C (u_13 a hi_a)) ⟨by decide, rfl, rfl⟩ (v_in (N := 17) (by decide) (by clear C; grind) (by clear C; grind)) dX0_work_100 ?_
              exact v_vret C dX0_work_101 (congr (congrArg Prod.mk (wS_eq rfl (by clear C; simp only [workF]; grind))) rfl)
          · refine v_aload_n C 0 dX0_work_65 rfl ?_
            refine v_gR C 0 a 0 13 a (C_m C (u_0 a hi_a)) k_0 (by decide) x_281 (fun _ _ _ => rfl) dX0_work_66 ?_
            refine v_iload C 4 dX0_work_69 rfl ?_
            refine v_iconst (v := 0) C dX0_work_71 (by decide) ?_
            refine v_aload_n C 0 dX0_work_72 rfl ?_
            refine v_gR C 0 a 0 13 a (C_m C (u_0 a hi_a)) k_0 (by decide) x_281 (fun _ _ _ => rfl) dX0_work_73 ?_
            refine v_iload C 4 dX0_work_76 rfl ?_
            refine v_iald C 13 a (C_m C (u_13 a hi_a)) ⟨by decide, rfl, rfl⟩ (v_in (N := 17) (by decide) (by clear C; grind) (by clear C; grind)) dX0_work_78 ?_
            refine v_iload_n C 3 dX0_work_79 rfl ?_
            refine v_isub C dX0_work_80 ?_
            refine v_mmax C x_813 x_592 x_85 x_593 ⟨by decide, Nat.le_of_ble_eq_true rfl⟩ dX0_work_81 ?_
            refine v_iast C 13 a (C_m C (u_13 a hi_a)) ⟨by decide, rfl, rfl⟩ (v_in (N := 17) (by decide) (by clear C; grind) (by clear C; grind)) dX0_work_84 ?_
            refine v_goto C 101 dX0_work_85 (by decide) ?_
            exact v_vret C dX0_work_101 (congr (congrArg Prod.mk (wS_eq rfl (by clear C; simp only [workF]; grind))) rfl)
        · refine v_aload_n C 0 dX0_work_31 rfl ?_
          refine v_gR C 0 a 0 13 a (C_m C (u_0 a hi_a)) k_0 (by decide) x_281 (fun _ _ _ => rfl) dX0_work_32 ?_
          refine v_iload C 4 dX0_work_35 rfl ?_
          refine v_aload_n C 1 dX0_work_37 rfl ?_
          refine v_gI C 5 r 1 501 (w 501 r 0) (C_m C (u_5 r hi_r)) k_5 (by decide) rfl rfl x_176 rfl dX0_work_38 ?_
          refine v_aload_n C 0 dX0_work_41 rfl ?_
          refine v_gR C 0 a 0 13 a (C_m C (u_0 a hi_a)) k_0 (by decide) x_281 (fun _ _ _ => rfl) dX0_work_42 ?_
          refine v_iload C 4 dX0_work_45 rfl ?_
          refine v_iald C 13 a (C_m C (u_13 a hi_a)) ⟨by decide, rfl, rfl⟩ (v_in (N := 17) (by decide) (by clear C; grind) (by clear C; grind)) dX0_work_47 ?_
          refine v_aload_n C 1 dX0_work_48 rfl ?_
          refine v_gI C 5 r 2 502 (w 502 r 0) (C_m C (u_5 r hi_r)) k_5 (by decide) rfl rfl x_180 rfl dX0_work_49 ?_
          refine v_iadd C dX0_work_52 ?_
          refine v_mmin C x_812 x_577 x_85 x_578 ⟨by decide, Nat.le_of_ble_eq_true rfl⟩ dX0_work_53 ?_
          refine v_iast C 13 a (C_m C (u_13 a hi_a)) ⟨by decide, rfl, rfl⟩ (v_in (N := 17) (by decide) (by clear C; grind) (by clear C; grind)) dX0_work_56 ?_
          refine v_goto C 101 dX0_work_57 (by decide) ?_
          exact v_vret C dX0_work_101 (congr (congrArg Prod.mk (wS_eq rfl (by clear C; simp only [workF]; grind))) rfl)
    · refine v_w (wS_id _ 13 a).symm ?_
      refine v_w (w2 := (wS w 13 a (w 13 a))) (by simp only [wS_s, wS_t, wS_a, ne_eq, Nat.reduceEqDiff, not_false_eq_true, wS_wS, wS_p, wS_pp, Nat.reduceLT, id_eq]) ?_
      exact v_vret C dX0_work_12 (congr (congrArg Prod.mk (wS_eq rfl (by clear C; simp only [workF]; grind))) rfl)
abbrev P_X0_flow (w : Wi) (z : Wj) (a : Nat) (r : Nat) (br : Int32) : WW → Prop := fun u_ => u_ = ((wS w 13 a (flowF (w 500 r 0) (w 35 r) (w 13 a) br)), z)
set_option maxHeartbeats 4000000 in
set_option maxRecDepth 100000 in
theorem c_X0_flow (E : En) (hE : q_ok E) (w : Wi) (z : Wj) (a : Nat) (hi_a : a < 4) (r : Nat) (hi_r : r < 4) (br : Int32) (h1 : 0 ≤ (w 500 r 0)) (h2 : (w 500 r 0) ≤ 16) : CtV M_X0_flow E [.ref (E.ad 0 a), .ref (E.ad 5 r), .int br] w z (P_X0_flow w z a r br) := by
  refine ctV_of (lv := [(0, .ref (E.ad 0 a)), (1, .ref (E.ad 5 r)), (2, .int br)]) hE m_X0_flow (Nat.le_of_ble_eq_true rfl) rfl ?_
  intro K A C0
  have C : Cx K E A cX0_flow 7 RX0 none { frames := 0, cells := 0, slots := 0, locals := 0 } := C0
  clear C0
  refine v_aload_n C 0 dX0_flow_0 rfl ?_
  refine v_gR C 0 a 0 13 a (C_m C (u_0 a hi_a)) k_0 (by decide) x_281 (fun _ _ _ => rfl) dX0_flow_1 ?_
  refine v_iconst (v := 0) C dX0_flow_4 (by decide) ?_
  refine v_iald C 13 a (C_m C (u_13 a hi_a)) ⟨by decide, rfl, rfl⟩ (v_in (x := 0) (N := 17) (by decide) (by decide) (by decide)) dX0_flow_5 ?_
  refine v_i (y := ((w 13 a) 0)) rfl ?_
  refine v_istore_n (lv2 := [(3, .int ((w 13 a) 0)), (0, .ref (E.ad 0 a)), (1, .ref (E.ad 5 r)), (2, .int br)]) C dX0_flow_6 rfl (by decide) rfl ?_
  refine v_iconst (v := 1) C dX0_flow_7 (by decide) ?_
  refine v_istore (lv2 := [(4, .int 1), (3, .int ((w 13 a) 0)), (0, .ref (E.ad 0 a)), (1, .ref (E.ad 5 r)), (2, .int br)]) C dX0_flow_8 (by decide) rfl ?_
  have hL10 : ∀ (n_ : Nat) (ah : Int32) (i : Int32) (P : Row), (17 - i).toNatClampNeg < n_ → (1 ≤ i ∧ i ≤ (w 500 r 0) + 1 ∧ ah = (w 13 a) (i.toNatClampNeg - 1) ∧ P = fwR (w 13 a) (flR (w 13 a) (w 35 r) br) i.toNatClampNeg) → V K E A 7 (QV K E A (P_X0_flow w z a r br)) 10 [(4, .int i), (3, .int ah), (0, .ref (E.ad 0 a)), (1, .ref (E.ad 5 r)), (2, .int br)] [] (wS w 13 a P) z := by
    intro n_
    induction n_ with
    | zero => intro ah i P hm_; exact absurd hm_ (Nat.not_lt_zero _)
    | succ n_ ih_10 =>
      intro ah i P hm_ hinv
      obtain ⟨g1, g2, g3, g4⟩ := hinv
      have g5 : P i.toNatClampNeg = (w 13 a) i.toNatClampNeg := by rw [g4, fwR_c]
      refine v_iload C 0 dX0_flow_10 rfl ?_
      refine v_aload_n C 3 dX0_flow_12 rfl ?_
      refine v_gI C 5 r 0 500 (w 500 r 0) (C_m C (u_5 r hi_r)) k_5 (by decide) rfl rfl x_171 (by simp only [wS_s, wS_t, wS_a, ne_eq, Nat.reduceEqDiff, not_false_eq_true]) dX0_flow_13 ?_
      refine v_ic_gt C 100 dX0_flow_16 (by decide) (fun c_16 => ?_) (fun c_16 => ?_)
      · refine v_iload_n C 4 dX0_flow_100 rfl ?_
        refine v_if_lt C 126 dX0_flow_101 (by decide) (fun c_101 => ?_) (fun c_101 => ?_)
        · exact v_vret C dX0_flow_126 (congr (congrArg Prod.mk (wS_eq rfl (by clear C ih_10; simp only [flowF]; rw [show (w 500 r 0) + 1 = i by grind, ← g4]; grind))) rfl)
        · refine v_iload_n C 4 dX0_flow_104 rfl ?_
          refine v_bipush (v := 16) C dX0_flow_105 (by decide) ?_
          refine v_ic_ge C 126 dX0_flow_107 (by decide) (fun c_107 => ?_) (fun c_107 => ?_)
          · exact v_vret C dX0_flow_126 (congr (congrArg Prod.mk (wS_eq rfl (by clear C ih_10; simp only [flowF]; rw [show (w 500 r 0) + 1 = i by grind, ← g4]; grind))) rfl)
          · refine v_aload_n C 2 dX0_flow_110 rfl ?_
            refine v_gR C 0 a 0 13 a (C_m C (u_0 a hi_a)) k_0 (by decide) x_281 (fun _ _ _ => rfl) dX0_flow_111 ?_
            refine v_iload_n C 4 dX0_flow_114 rfl ?_
            refine v_iconst (v := 0) C dX0_flow_115 (by decide) ?_
            refine v_iast C 13 a (C_m C (u_13 a hi_a)) ⟨by decide, rfl, rfl⟩ (v_in (N := 17) (by decide) (by clear C ih_10; grind) (by clear C ih_10; grind)) dX0_flow_116 ?_
            refine v_aload_n C 2 dX0_flow_117 rfl ?_
            refine v_gR C 0 a 0 13 a (C_m C (u_0 a hi_a)) k_0 (by decide) x_281 (fun _ _ _ => rfl) dX0_flow_118 ?_
            refine v_iload_n C 4 dX0_flow_121 rfl ?_
            refine v_iconst (v := 1) C dX0_flow_122 (by decide) ?_
            refine v_iadd C dX0_flow_123 ?_
            refine v_iconst (v := 0) C dX0_flow_124 (by decide) ?_
            refine v_iast C 13 a (C_m C (u_13 a hi_a)) ⟨by decide, rfl, rfl⟩ (v_in (N := 17) (by decide) (by clear C ih_10; grind) (by clear C ih_10; grind)) dX0_flow_125 ?_
            refine v_w (w2 := (wS w 13 a (upd (upd P br.toNatClampNeg 0) (br + 1).toNatClampNeg 0))) (by simp only [wS_s, wS_t, wS_a, ne_eq, Nat.reduceEqDiff, not_false_eq_true, wS_wS, wS_p, wS_pp, Nat.reduceLT, id_eq]) ?_
            exact v_vret C dX0_flow_126 (congr (congrArg Prod.mk (wS_eq rfl (by clear C ih_10; simp only [flowF]; rw [show (w 500 r 0) + 1 = i by grind, ← g4]; grind))) rfl)
      · refine v_iload C 0 dX0_flow_19 rfl ?_
        refine v_bipush (v := 17) C dX0_flow_21 (by decide) ?_
        refine v_ic_ge C 100 dX0_flow_23 (by decide) (fun c_23 => absurd c_23 (by clear C ih_10; grind)) (fun c_23 => ?_)
        refine v_aload_n C 2 dX0_flow_26 rfl ?_
        refine v_gR C 0 a 0 13 a (C_m C (u_0 a hi_a)) k_0 (by decide) x_281 (fun _ _ _ => rfl) dX0_flow_27 ?_
        refine v_iload C 0 dX0_flow_30 rfl ?_
        refine v_iald C 13 a (C_m C (u_13 a hi_a)) ⟨by decide, rfl, rfl⟩ (v_in (N := 17) (by decide) (by clear C ih_10; grind) (by clear C ih_10; grind)) dX0_flow_32 ?_
        refine v_i (y := (P i.toNatClampNeg)) (by simp only [wS_s, wS_t, wS_a, ne_eq, Nat.reduceEqDiff, not_false_eq_true]) ?_
        refine v_istore (lv2 := [(5, .int (P i.toNatClampNeg)), (4, .int i), (3, .int ah), (0, .ref (E.ad 0 a)), (1, .ref (E.ad 5 r)), (2, .int br)]) C dX0_flow_33 (by decide) rfl ?_
        have hL63 : ∀ (f : Int32), (f = flR (w 13 a) (w 35 r) br i.toNatClampNeg) → V K E A 7 (QV K E A (P_X0_flow w z a r br)) 63 [(5, .int (P i.toNatClampNeg)), (4, .int i), (3, .int ah), (0, .ref (E.ad 0 a)), (1, .ref (E.ad 5 r)), (2, .int br)] [.int f] (wS w 13 a P) z := by
          intro f hinv
          have hf := hinv
          refine v_istore (lv2 := [(6, .int f), (5, .int (P i.toNatClampNeg)), (4, .int i), (3, .int ah), (0, .ref (E.ad 0 a)), (1, .ref (E.ad 5 r)), (2, .int br)]) C dX0_flow_63 (by decide) rfl ?_
          refine v_aload_n C 4 dX0_flow_65 rfl ?_
          refine v_gR C 0 a 0 13 a (C_m C (u_0 a hi_a)) k_0 (by decide) x_281 (fun _ _ _ => rfl) dX0_flow_66 ?_
          refine v_iload C 2 dX0_flow_69 rfl ?_
          refine v_iconst (v := 1) C dX0_flow_71 (by decide) ?_
          refine v_isub C dX0_flow_72 ?_
          refine v_dup2 C dX0_flow_73 rfl rfl ?_
          refine v_iald C 13 a (C_m C (u_13 a hi_a)) ⟨by decide, rfl, rfl⟩ (v_in (N := 17) (by decide) (by clear C ih_10; grind) (by clear C ih_10; grind)) dX0_flow_74 ?_
          refine v_i (y := (P (i - 1).toNatClampNeg)) (by simp only [wS_s, wS_t, wS_a, ne_eq, Nat.reduceEqDiff, not_false_eq_true]) ?_
          refine v_iload C 0 dX0_flow_75 rfl ?_
          refine v_isub C dX0_flow_77 ?_
          refine v_iast C 13 a (C_m C (u_13 a hi_a)) ⟨by decide, rfl, rfl⟩ (v_in (N := 17) (by decide) (by clear C ih_10; grind) (by clear C ih_10; grind)) dX0_flow_78 ?_
          refine v_aload_n C 4 dX0_flow_79 rfl ?_
          refine v_gR C 0 a 0 13 a (C_m C (u_0 a hi_a)) k_0 (by decide) x_281 (fun _ _ _ => rfl) dX0_flow_80 ?_
          refine v_iload C 2 dX0_flow_83 rfl ?_
          refine v_dup2 C dX0_flow_85 rfl rfl ?_
          refine v_iald C 13 a (C_m C (u_13 a hi_a)) ⟨by decide, rfl, rfl⟩ (v_in (N := 17) (by decide) (by clear C ih_10; grind) (by clear C ih_10; grind)) dX0_flow_86 ?_
          refine v_i (y := ((upd P (i - 1).toNatClampNeg ((P (i - 1).toNatClampNeg) - f)) i.toNatClampNeg)) (by simp only [wS_s, wS_t, wS_a, ne_eq, Nat.reduceEqDiff, not_false_eq_true]) ?_
          refine v_iload C 0 dX0_flow_87 rfl ?_
          refine v_iadd C dX0_flow_89 ?_
          refine v_iast C 13 a (C_m C (u_13 a hi_a)) ⟨by decide, rfl, rfl⟩ (v_in (N := 17) (by decide) (by clear C ih_10; grind) (by clear C ih_10; grind)) dX0_flow_90 ?_
          refine v_iload C 1 dX0_flow_91 rfl ?_
          refine v_istore_n (lv2 := [(3, .int (P i.toNatClampNeg)), (6, .int f), (5, .int (P i.toNatClampNeg)), (4, .int i), (0, .ref (E.ad 0 a)), (1, .ref (E.ad 5 r)), (2, .int br)]) C dX0_flow_93 rfl (by decide) rfl ?_
          refine v_iinc (v := i + 1) (lv2 := [(4, .int (i + 1)), (3, .int (P i.toNatClampNeg)), (6, .int f), (5, .int (P i.toNatClampNeg)), (0, .ref (E.ad 0 a)), (1, .ref (E.ad 5 r)), (2, .int br)]) C 3 dX0_flow_94 rfl rfl (by decide) rfl ?_
          refine v_goto C 10 dX0_flow_97 (by decide) ?_
          refine v_w (w2 := (wS w 13 a (upd (upd P (i - 1).toNatClampNeg ((P (i - 1).toNatClampNeg) - f)) i.toNatClampNeg (((upd P (i - 1).toNatClampNeg ((P (i - 1).toNatClampNeg) - f)) i.toNatClampNeg) + f)))) (by simp only [wS_s, wS_t, wS_a, ne_eq, Nat.reduceEqDiff, not_false_eq_true, wS_wS, wS_p, wS_pp, Nat.reduceLT, id_eq]) ?_
          refine v_l [0, 1, 4, 5, 6] rfl ?_
          exact ih_10 (P i.toNatClampNeg) (i + 1) (upd (upd P (i - 1).toNatClampNeg ((P (i - 1).toNatClampNeg) - f)) i.toNatClampNeg (((upd P (i - 1).toNatClampNeg ((P (i - 1).toNatClampNeg) - f)) i.toNatClampNeg) + f)) (by clear C ih_10; exact Nat.lt_of_lt_of_le (m_up (by grind) (by grind)) (Nat.le_of_lt_succ hm_)) (by clear C ih_10; exact ⟨by grind, by grind, by rw [cl_succ (by grind) (by grind), Nat.add_sub_cancel]; exact g5, by rw [cl_succ (by grind) (by grind), ← fwR_s _ _ (cl_pos g1), ← g4, cl_pred g1, hf]⟩)
        refine v_iload C 1 dX0_flow_35 rfl ?_
        refine v_iconst (v := 1) C dX0_flow_37 (by decide) ?_
        refine v_isub C dX0_flow_38 ?_
        refine v_iload_n C 5 dX0_flow_39 rfl ?_
        refine v_ic_ne C 47 dX0_flow_40 (by decide) (fun c_40 => ?_) (fun c_40 => ?_)
        · refine v_iload_n C 2 dX0_flow_47 rfl ?_
          refine v_iload C 0 dX0_flow_48 rfl ?_
          refine v_isub C dX0_flow_50 ?_
          refine v_aload_n C 4 dX0_flow_51 rfl ?_
          refine v_gR C 5 r 8 35 r (C_m C (u_5 r hi_r)) k_5 (by decide) x_193 (fun _ _ _ => rfl) dX0_flow_52 ?_
          refine v_iload C 1 dX0_flow_55 rfl ?_
          refine v_iald C 35 r (C_m C (u_35 r hi_r)) ⟨by decide, rfl, rfl⟩ (v_in (N := 17) (by decide) (by clear C ih_10 hL63; grind) (by clear C ih_10 hL63; grind)) dX0_flow_57 ?_
          refine v_i (y := ((w 35 r) i.toNatClampNeg)) (by simp only [wS_s, wS_t, wS_a, ne_eq, Nat.reduceEqDiff, not_false_eq_true]) ?_
          refine v_imul C dX0_flow_58 ?_
          refine v_sipush (v := 400) C dX0_flow_59 (by decide) ?_
          refine v_idiv C dX0_flow_62 (by decide) ?_
          exact hL63 (((ah - (P i.toNatClampNeg)) * ((w 35 r) i.toNatClampNeg)) / 400) (by clear C ih_10 hL63; simp only [flR, nI_cl (show (0 : Int32) ≤ i by grind)]; grind)
        · refine v_iconst (v := 0) C dX0_flow_43 (by decide) ?_
          refine v_goto C 63 dX0_flow_44 (by decide) ?_
          exact hL63 0 (by clear C ih_10 hL63; simp only [flR, nI_cl (show (0 : Int32) ≤ i by grind)]; grind)
  refine v_w (wS_id _ 13 a).symm ?_
  refine v_w (w2 := (wS w 13 a (w 13 a))) (by simp only [wS_s, wS_t, wS_a, ne_eq, Nat.reduceEqDiff, not_false_eq_true, wS_wS, wS_p, wS_pp, Nat.reduceLT, id_eq]) ?_
  exact hL10 _ ((w 13 a) 0) 1 (w 13 a) (Nat.lt_succ_self _) (by clear C hL10; exact ⟨by decide, by grind, rfl, (fwR_1 _ _).symm⟩)
abbrev P_X0_samePressure (w : Wi) (z : Wj) (a : Nat) (n : Int32) : Int32 → WW → Prop := fun r_ u_ => r_ = (sameR (w 13 a) (w 14 a) (n + 1).toNatClampNeg) ∧ u_ = (w, z)
set_option maxHeartbeats 4000000 in
set_option maxRecDepth 100000 in
theorem c_X0_samePressure (E : En) (hE : q_ok E) (w : Wi) (z : Wj) (a : Nat) (hi_a : a < 4) (n : Int32) (h1 : 0 ≤ n) (h2 : n ≤ 16) : CtI M_X0_samePressure E [.ref (E.ad 0 a), .int n] w z (P_X0_samePressure w z a n) := by
  refine ctI_of (lv := [(0, .ref (E.ad 0 a)), (1, .int n)]) hE m_X0_samePressure (Nat.le_of_ble_eq_true rfl) rfl ?_
  intro K A C0
  have C : Cx K E A cX0_samePressure 3 RX0 (some .boolean) { frames := 0, cells := 0, slots := 0, locals := 0 } := C0
  clear C0
  refine v_iconst (v := 0) C dX0_samePressure_0 (by decide) ?_
  refine v_istore_n (lv2 := [(2, .int 0), (0, .ref (E.ad 0 a)), (1, .int n)]) C dX0_samePressure_1 rfl (by decide) rfl ?_
  have hL2 : ∀ (n_ : Nat) (i : Int32), (17 - i).toNatClampNeg < n_ → (0 ≤ i ∧ i ≤ n + 1 ∧ sameR (w 13 a) (w 14 a) i.toNatClampNeg = 1) → V K E A 3 (QI K E A (P_X0_samePressure w z a n)) 2 [(2, .int i), (0, .ref (E.ad 0 a)), (1, .int n)] [] w z := by
    intro n_
    induction n_ with
    | zero => intro i hm_; exact absurd hm_ (Nat.not_lt_zero _)
    | succ n_ ih_2 =>
      intro i hm_ hinv
      obtain ⟨g1, g2, g3⟩ := hinv
      refine v_iload_n C 0 dX0_samePressure_2 rfl ?_
      refine v_iload_n C 2 dX0_samePressure_3 rfl ?_
      refine v_ic_gt C 36 dX0_samePressure_4 (by decide) (fun c_4 => ?_) (fun c_4 => ?_)
      · refine v_iconst (v := 1) C dX0_samePressure_36 (by decide) ?_
        exact v_zret C dX0_samePressure_37 (by decide) ⟨(by clear C ih_2; rw [show n + 1 = i by grind]; exact g3.symm), (congr (congrArg Prod.mk rfl) rfl)⟩
      · refine v_iload_n C 0 dX0_samePressure_7 rfl ?_
        refine v_bipush (v := 17) C dX0_samePressure_8 (by decide) ?_
        refine v_ic_ge C 36 dX0_samePressure_10 (by decide) (fun c_10 => absurd c_10 (by clear C ih_2; grind)) (fun c_10 => ?_)
        refine v_aload_n C 1 dX0_samePressure_13 rfl ?_
        refine v_gR C 0 a 0 13 a (C_m C (u_0 a hi_a)) k_0 (by decide) x_281 (fun _ _ _ => rfl) dX0_samePressure_14 ?_
        refine v_iload_n C 0 dX0_samePressure_17 rfl ?_
        refine v_iald C 13 a (C_m C (u_13 a hi_a)) ⟨by decide, rfl, rfl⟩ (v_in (N := 17) (by decide) (by clear C ih_2; grind) (by clear C ih_2; grind)) dX0_samePressure_18 ?_
        refine v_aload_n C 1 dX0_samePressure_19 rfl ?_
        refine v_gR C 0 a 1 14 a (C_m C (u_0 a hi_a)) k_0 (by decide) x_282 (fun _ _ _ => rfl) dX0_samePressure_20 ?_
        refine v_iload_n C 0 dX0_samePressure_23 rfl ?_
        refine v_iald C 14 a (C_m C (u_14 a hi_a)) ⟨by decide, rfl, rfl⟩ (v_in (N := 17) (by decide) (by clear C ih_2; grind) (by clear C ih_2; grind)) dX0_samePressure_24 ?_
        refine v_ic_eq C 30 dX0_samePressure_25 (by decide) (fun c_25 => ?_) (fun c_25 => ?_)
        · refine v_iinc (v := i + 1) (lv2 := [(2, .int (i + 1)), (0, .ref (E.ad 0 a)), (1, .int n)]) C 0 dX0_samePressure_30 rfl rfl (by decide) rfl ?_
          refine v_goto C 2 dX0_samePressure_33 (by decide) ?_
          exact ih_2 (i + 1) (by clear C ih_2; exact Nat.lt_of_lt_of_le (m_up (by grind) (by grind)) (Nat.le_of_lt_succ hm_)) (by clear C ih_2; exact ⟨by grind, by grind, by rw [cl_succ (by grind) (by grind)]; simp only [sameR]; rw [if_pos ⟨g3, by assumption⟩]⟩)
        · refine v_iconst (v := 0) C dX0_samePressure_28 (by decide) ?_
          exact v_zret C dX0_samePressure_29 (by decide) ⟨(by clear C ih_2; exact (sameR_lt _ _ (by assumption) ((cl_lt (by grind) (by grind)).mpr (by grind))).symm), (congr (congrArg Prod.mk rfl) rfl)⟩
  exact hL2 _ 0 (Nat.lt_succ_self _) (by clear C hL2; exact ⟨by decide, by grind, rfl⟩)
