abbrev P_X10_findBraked (w : Wi) (z : Wj) : Int32 → WW → Prop := fun r_ u_ => r_ = ((bkR (w 32 0) (w 40 0) ((w 500 0 0) + 1).toNatClampNeg).2) ∧ u_ = ((wS w 40 0 ((bkR (w 32 0) (w 40 0) ((w 500 0 0) + 1).toNatClampNeg).1)), z)
set_option maxHeartbeats 4000000 in
set_option maxRecDepth 100000 in
theorem c_X10_findBraked (E : En) (hE : q_ok E) (w : Wi) (z : Wj) (h1 : 0 ≤ (w 500 0 0)) (h2 : (w 500 0 0) ≤ 10) : CtI M_X10_findBraked E [.ref (E.ad 10 0)] w z (P_X10_findBraked w z) := by
  refine ctI_of (lv := [(0, .ref (E.ad 10 0))]) hE m_X10_findBraked (Nat.le_of_ble_eq_true rfl) rfl ?_
  intro K A C0
  have C : Cx K E A cX10_findBraked 3 RX10 (some .int) { frames := 0, cells := 0, slots := 0, locals := 0 } := C0
  clear C0
  refine v_iconst (v := 0) C dX10_findBraked_0 (by decide) ?_
  refine v_istore_n (lv2 := [(1, .int 0), (0, .ref (E.ad 10 0))]) C dX10_findBraked_1 rfl (by decide) rfl ?_
  refine v_iconst (v := 1) C dX10_findBraked_2 (by decide) ?_
  refine v_istore_n (lv2 := [(2, .int 1), (1, .int 0), (0, .ref (E.ad 10 0))]) C dX10_findBraked_3 rfl (by decide) rfl ?_
  have hL4 : ∀ (n_ : Nat) (n : Int32) (i : Int32) (B : Row), (17 - i).toNatClampNeg < n_ → (1 ≤ i ∧ i ≤ (w 500 0 0) + 1 ∧ 0 ≤ n ∧ n < i ∧ bkR (w 32 0) (w 40 0) i.toNatClampNeg = (B, n)) → V K E A 3 (QI K E A (P_X10_findBraked w z)) 4 [(2, .int i), (1, .int n), (0, .ref (E.ad 10 0))] [] (wS w 40 0 B) z := by
    intro n_
    induction n_ with
    | zero => intro n i B hm_; exact absurd hm_ (Nat.not_lt_zero _)
    | succ n_ ih_4 =>
      intro n i B hm_ hinv
      obtain ⟨g1, g2, g3, g4, g5⟩ := hinv
      refine v_iload_n C 0 dX10_findBraked_4 rfl ?_
      refine v_aload_n C 2 dX10_findBraked_5 rfl ?_
      refine v_gR C 10 0 0 5 0 (C_m C (u_10 0 (by decide))) k_10 (by decide) x_357 (fun _ _ _ => rfl) dX10_findBraked_6 ?_
      refine v_gI C 5 0 0 500 (w 500 0 0) (C_m C (u_5 0 (by decide))) k_5 (by decide) rfl rfl x_173 (by simp only [wS_s, wS_t, wS_a, ne_eq, Nat.reduceEqDiff, not_false_eq_true]) dX10_findBraked_9 ?_
      refine v_ic_gt C 55 dX10_findBraked_12 (by decide) (fun c_12 => ?_) (fun c_12 => ?_)
      · refine v_iload_n C 1 dX10_findBraked_55 rfl ?_
        have g6 : bkR (w 32 0) (w 40 0) ((w 500 0 0) + 1).toNatClampNeg = (B, n) := by rw [show (w 500 0 0) + 1 = i by grind]; exact g5
        exact v_iret C dX10_findBraked_56 ⟨(by clear C ih_4; rw [g6]), (congr (congrArg Prod.mk (wS_eq rfl (by clear C ih_4; rw [g6]))) rfl)⟩
      · refine v_iload_n C 0 dX10_findBraked_15 rfl ?_
        refine v_bipush (v := 10) C dX10_findBraked_16 (by decide) ?_
        refine v_ic_gt C 55 dX10_findBraked_18 (by decide) (fun c_18 => absurd c_18 (by clear C ih_4; grind)) (fun c_18 => ?_)
        refine v_aload_n C 2 dX10_findBraked_21 rfl ?_
        refine v_gR C 10 0 0 5 0 (C_m C (u_10 0 (by decide))) k_10 (by decide) x_357 (fun _ _ _ => rfl) dX10_findBraked_22 ?_
        refine v_gR C 5 0 5 32 0 (C_m C (u_5 0 (by decide))) k_5 (by decide) x_187 (fun _ _ _ => rfl) dX10_findBraked_25 ?_
        refine v_iload_n C 0 dX10_findBraked_28 rfl ?_
        refine v_iald C 32 0 (C_m C (u_32 0 (by decide))) ⟨by decide, rfl, rfl⟩ (v_in (N := 17) (by decide) (by clear C ih_4; grind) (by clear C ih_4; grind)) dX10_findBraked_29 ?_
        refine v_i (y := ((w 32 0) i.toNatClampNeg)) (by simp only [wS_s, wS_t, wS_a, ne_eq, Nat.reduceEqDiff, not_false_eq_true]) ?_
        refine v_if_ne C 49 dX10_findBraked_30 (by decide) (fun c_30 => ?_) (fun c_30 => ?_)
        · refine v_iinc (v := i + 1) (lv2 := [(2, .int (i + 1)), (1, .int n), (0, .ref (E.ad 10 0))]) C 0 dX10_findBraked_49 rfl rfl (by decide) rfl ?_
          refine v_goto C 4 dX10_findBraked_52 (by decide) ?_
          exact ih_4 n (i + 1) B (by clear C ih_4; exact Nat.lt_of_lt_of_le (m_up (by grind) (by grind)) (Nat.le_of_lt_succ hm_)) (by clear C ih_4; refine ⟨by grind, by grind, by grind, by grind, ?_⟩; rw [cl_succ (by grind) (by grind), bkR_s _ _ (cl_pos g1), g5, nI_cl (show (0 : Int32) ≤ i by grind)]; first | rw [if_pos (by assumption)] | rw [if_neg (by assumption)])
        · refine v_iload_n C 1 dX10_findBraked_33 rfl ?_
          refine v_bipush (v := 10) C dX10_findBraked_34 (by decide) ?_
          refine v_ic_ge C 49 dX10_findBraked_36 (by decide) (fun c_36 => absurd c_36 (by clear C ih_4; grind)) (fun c_36 => ?_)
          refine v_aload_n C 2 dX10_findBraked_39 rfl ?_
          refine v_gR C 10 0 10 40 0 (C_m C (u_10 0 (by decide))) k_10 (by decide) x_367 (fun _ _ _ => rfl) dX10_findBraked_40 ?_
          refine v_iload_n C 1 dX10_findBraked_43 rfl ?_
          refine v_iload_n C 0 dX10_findBraked_44 rfl ?_
          refine v_iast C 40 0 (C_m C (u_40 0 (by decide))) ⟨by decide, rfl, rfl⟩ (v_in (N := 10) (by decide) (by clear C ih_4; grind) (by clear C ih_4; grind)) dX10_findBraked_45 ?_
          refine v_iinc (v := n + 1) (lv2 := [(1, .int (n + 1)), (2, .int i), (0, .ref (E.ad 10 0))]) C 1 dX10_findBraked_46 rfl rfl (by decide) rfl ?_
          refine v_iinc (v := i + 1) (lv2 := [(2, .int (i + 1)), (1, .int (n + 1)), (0, .ref (E.ad 10 0))]) C 1 dX10_findBraked_49 rfl rfl (by decide) rfl ?_
          refine v_goto C 4 dX10_findBraked_52 (by decide) ?_
          refine v_w (w2 := (wS w 40 0 (upd B n.toNatClampNeg i))) (by simp only [wS_s, wS_t, wS_a, ne_eq, Nat.reduceEqDiff, not_false_eq_true, wS_wS, wS_p, wS_pp, Nat.reduceLT, id_eq]) ?_
          exact ih_4 (n + 1) (i + 1) (upd B n.toNatClampNeg i) (by clear C ih_4; exact Nat.lt_of_lt_of_le (m_up (by grind) (by grind)) (Nat.le_of_lt_succ hm_)) (by clear C ih_4; refine ⟨by grind, by grind, by grind, by grind, ?_⟩; rw [cl_succ (by grind) (by grind), bkR_s _ _ (cl_pos g1), g5, nI_cl (show (0 : Int32) ≤ i by grind)]; first | rw [if_pos (by assumption)] | rw [if_neg (by assumption)])
  refine v_w (wS_id _ 40 0).symm ?_
  refine v_w (w2 := (wS w 40 0 (w 40 0))) (by simp only [wS_s, wS_t, wS_a, ne_eq, Nat.reduceEqDiff, not_false_eq_true, wS_wS, wS_p, wS_pp, Nat.reduceLT, id_eq]) ?_
  exact hL4 _ 0 1 (w 40 0) (Nat.lt_succ_self _) (by clear C hL4; exact ⟨by decide, by grind, by decide, by decide, rfl⟩)
