abbrev P_X12_stepAt (w : Wi) (z : Wj) (t0 : Int32) : Int32 → WW → Prop := fun r_ u_ => r_ = (saR (w 45 0) ((w 1084 0 0)).toNatClampNeg 0 t0) ∧ u_ = (w, z)
set_option maxHeartbeats 4000000 in
set_option maxRecDepth 100000 in
theorem c_X12_stepAt (E : En) (hM : q_okM E) (w : Wi) (z : Wj) (t0 : Int32) (h1 : 0 ≤ (w 1084 0 0)) (h2 : (w 1084 0 0) ≤ 20) : CtI M_X12_stepAt E [.ref (E.ad 12 0), .int t0] w z (P_X12_stepAt w z t0) := by
  have hE := hM.1
  refine ctI_of (lv := [(0, .ref (E.ad 12 0)), (1, .int t0)]) hE m_X12_stepAt (Nat.le_of_ble_eq_true rfl) rfl ?_
  intro K A C0
  have C : Cx K E A cX12_stepAt 4 RX12 (some .int) { frames := 0, cells := 0, slots := 0, locals := 0 } := C0
  clear C0
  refine v_iload_n C 1 dX12_stepAt_0 rfl ?_
  refine v_istore_n (lv2 := [(2, .int t0), (0, .ref (E.ad 12 0)), (1, .int t0)]) C dX12_stepAt_1 rfl (by decide) rfl ?_
  refine v_iconst (v := 0) C dX12_stepAt_2 (by decide) ?_
  refine v_istore_n (lv2 := [(3, .int 0), (2, .int t0), (0, .ref (E.ad 12 0)), (1, .int t0)]) C dX12_stepAt_3 rfl (by decide) rfl ?_
  have hL4 : ∀ (n_ : Nat) (t : Int32) (i : Int32), (100 - i).toNatClampNeg < n_ → (0 ≤ i ∧ i ≤ (w 1084 0 0) ∧ saR (w 45 0) ((w 1084 0 0) - i).toNatClampNeg i.toNatClampNeg t = saR (w 45 0) (w 1084 0 0).toNatClampNeg 0 t0) → V K E A 4 (QI K E A (P_X12_stepAt w z t0)) 4 [(3, .int i), (2, .int t), (0, .ref (E.ad 12 0)), (1, .int t0)] [] w z := by
    intro n_
    induction n_ with
    | zero => intro t i hm_; exact absurd hm_ (Nat.not_lt_zero _)
    | succ n_ ih_4 =>
      intro t i hm_ hinv
      obtain ⟨g1, g2, g3⟩ := hinv
      refine v_iload_n C 0 dX12_stepAt_4 rfl ?_
      refine v_aload_n C 2 dX12_stepAt_5 rfl ?_
      refine v_gI C 12 0 24 1084 (w 1084 0 0) (hM.2 _ (u_12 0 (by decide))) k_12 (by decide) rfl rfl x_1266 rfl dX12_stepAt_6 ?_
      refine v_ic_ge C 39 dX12_stepAt_9 (by decide) (fun c_9 => ?_) (fun c_9 => ?_)
      · refine v_aload_n C 2 dX12_stepAt_39 rfl ?_
        refine v_gI C 12 0 24 1084 (w 1084 0 0) (hM.2 _ (u_12 0 (by decide))) k_12 (by decide) rfl rfl x_1266 rfl dX12_stepAt_40 ?_
        refine v_iconst (v := 1) C dX12_stepAt_43 (by decide) ?_
        refine v_isub C dX12_stepAt_44 ?_
        exact v_iret C dX12_stepAt_45 ⟨(by clear C ih_4; rw [← g3, show (w 1084 0 0) - i = 0 by clear g3; grind]; show (w 1084 0 0) - 1 = nI i.toNatClampNeg - 1; rw [nI_cl g1]; clear g3; grind), (congr (congrArg Prod.mk rfl) rfl)⟩
      · refine v_iload_n C 1 dX12_stepAt_12 rfl ?_
        refine v_aload_n C 2 dX12_stepAt_13 rfl ?_
        refine v_gR C 12 0 23 45 0 (hM.2 _ (u_12 0 (by decide))) k_12 (by decide) x_1265 (fun _ _ _ => rfl) dX12_stepAt_14 ?_
        refine v_iload_n C 0 dX12_stepAt_17 rfl ?_
        refine v_iald C 45 0 (hM.2 _ (u_45 0 (by decide))) ⟨by decide, rfl, rfl⟩ (by exact v_in (N := 40) (by decide) (by clear g3; grind) (by clear g3; grind)) dX12_stepAt_18 ?_
        refine v_ic_gt C 24 dX12_stepAt_19 (by decide) (fun c_19 => ?_) (fun c_19 => ?_)
        · refine v_iload_n C 1 dX12_stepAt_24 rfl ?_
          refine v_aload_n C 2 dX12_stepAt_25 rfl ?_
          refine v_gR C 12 0 23 45 0 (hM.2 _ (u_12 0 (by decide))) k_12 (by decide) x_1265 (fun _ _ _ => rfl) dX12_stepAt_26 ?_
          refine v_iload_n C 0 dX12_stepAt_29 rfl ?_
          refine v_iald C 45 0 (hM.2 _ (u_45 0 (by decide))) ⟨by decide, rfl, rfl⟩ (by exact v_in (N := 40) (by decide) (by clear g3; grind) (by clear g3; grind)) dX12_stepAt_30 ?_
          refine v_isub C dX12_stepAt_31 ?_
          refine v_istore_n (lv2 := [(2, .int (t - ((w 45 0) i.toNatClampNeg))), (3, .int i), (0, .ref (E.ad 12 0)), (1, .int t0)]) C dX12_stepAt_32 rfl (by decide) rfl ?_
          refine v_iinc (v := i + 1) (lv2 := [(3, .int (i + 1)), (2, .int (t - ((w 45 0) i.toNatClampNeg))), (0, .ref (E.ad 12 0)), (1, .int t0)]) C 1 dX12_stepAt_33 rfl rfl (by decide) rfl ?_
          refine v_goto C 4 dX12_stepAt_36 (by decide) ?_
          exact ih_4 (t - ((w 45 0) i.toNatClampNeg)) (i + 1) (by clear C ih_4; exact Nat.lt_of_lt_of_le (m_up (by clear g3; grind) (by clear g3; grind)) (Nat.le_of_lt_succ hm_)) (by clear C ih_4; refine ⟨by clear g3; grind, by clear g3; grind, ?_⟩; rw [← g3, m_dnn g1 (by clear g3; grind), cl_succ g1 (by clear g3; grind)]; simp only [saR]; rw [if_neg (by clear g3; grind)])
        · refine v_iload_n C 0 dX12_stepAt_22 rfl ?_
          exact v_iret C dX12_stepAt_23 ⟨(by clear C ih_4; rw [← g3, m_dnn g1 (by clear g3; grind)]; simp only [saR]; rw [if_pos (by clear g3; grind), nI_cl g1]), (congr (congrArg Prod.mk rfl) rfl)⟩
  exact hL4 _ t0 0 (Nat.lt_succ_self _) (by clear C hL4; exact ⟨by decide, h1, by rw [show (w 1084 0 0) - 0 = (w 1084 0 0) by grind]; rfl⟩)
abbrev P_X12_act (w : Wi) (z : Wj) (ce : Int32) (wh : Int32) (dr : Int32) : WW → Prop := fun u_ => u_ = ((wS w 52 0 (workG (w 1075 0 0) (w 1076 0 0) (w 52 0) wh dr ce)), z)
set_option maxHeartbeats 4000000 in
set_option maxRecDepth 100000 in
theorem c_X12_act (E : En) (hM : q_okM E) (w : Wi) (z : Wj) (ce : Int32) (wh : Int32) (dr : Int32) (h1 : 0 ≤ ce) (h2 : ce ≤ 16) : CtV M_X12_act E [.ref (E.ad 12 0), .int ce, .int wh, .int dr] w z (P_X12_act w z ce wh dr) := by
  have hE := hM.1
  refine ctV_of (lv := [(0, .ref (E.ad 12 0)), (1, .int ce), (2, .int wh), (3, .int dr)]) hE m_X12_act (Nat.le_of_ble_eq_true rfl) rfl ?_
  intro K A C0
  have C : Cx K E A cX12_act 4 RX12 none { frames := 0, cells := 0, slots := 0, locals := 0 } := C0
  clear C0
  refine v_iload_n C 2 dX12_act_0 rfl ?_
  refine v_if_ne C 59 dX12_act_1 (by decide) (fun c_1 => ?_) (fun c_1 => ?_)
  · refine v_iload_n C 2 dX12_act_59 rfl ?_
    refine v_iconst (v := 2) C dX12_act_60 (by decide) ?_
    refine v_ic_ne C 92 dX12_act_61 (by decide) (fun c_61 => ?_) (fun c_61 => ?_)
    · refine v_iload_n C 2 dX12_act_92 rfl ?_
      refine v_iconst (v := 3) C dX12_act_93 (by decide) ?_
      refine v_ic_ne C 104 dX12_act_94 (by decide) (fun c_94 => ?_) (fun c_94 => ?_)
      · refine v_w (wS_id _ 52 0).symm ?_
        refine v_w (w2 := (wS w 52 0 (w 52 0))) (by simp only [wS_s, wS_t, wS_a, ne_eq, Nat.reduceEqDiff, not_false_eq_true, wS_wS, wS_p, wS_pp, Nat.reduceLT, id_eq, L7_1]) ?_
        exact v_vret C dX12_act_104 (congr (congrArg Prod.mk (wS_eq rfl (by clear C; simp only [workG]; grind))) rfl)
      · refine v_aload_n C 0 dX12_act_97 rfl ?_
        refine v_gR C 12 0 34 52 0 (hM.2 _ (u_12 0 (by decide))) k_12 (by decide) x_1276 (fun _ _ _ => rfl) dX12_act_98 ?_
        refine v_iload_n C 1 dX12_act_101 rfl ?_
        refine v_iconst (v := 0) C dX12_act_102 (by decide) ?_
        refine v_iast C 52 0 (hM.2 _ (u_52 0 (by decide))) ⟨by decide, rfl, rfl⟩ (v_in (N := 17) (by decide) (by clear C; grind) (by clear C; grind)) dX12_act_103 ?_
        exact v_vret C dX12_act_104 (congr (congrArg Prod.mk (wS_eq rfl (by clear C; simp only [workG]; grind))) rfl)
    · have hL91 : ∀ (v2 : Int32), (v2 = (if dr < (w 52 0) ce.toNatClampNeg then (w 52 0) ce.toNatClampNeg - dr else 0)) → V K E A 4 (QV K E A (P_X12_act w z ce wh dr)) 91 [(0, .ref (E.ad 12 0)), (1, .int ce), (2, .int wh), (3, .int dr)] [.int v2, .int ce, .ref (E.ad 52 0)] w z := by
        intro v2 hinv
        have e2 := hinv
        refine v_iast C 52 0 (hM.2 _ (u_52 0 (by decide))) ⟨by decide, rfl, rfl⟩ (v_in (N := 17) (by decide) (by clear C; grind) (by clear C; grind)) dX12_act_91 ?_
        refine v_iload_n C 2 dX12_act_92 rfl ?_
        refine v_iconst (v := 3) C dX12_act_93 (by decide) ?_
        refine v_ic_ne C 104 dX12_act_94 (by decide) (fun c_94 => ?_) (fun c_94 => ?_)
        · exact v_vret C dX12_act_104 (congr (congrArg Prod.mk (wS_eq rfl (by clear C; simp only [workG]; grind))) rfl)
        · refine v_aload_n C 0 dX12_act_97 rfl ?_
          refine v_gR C 12 0 34 52 0 (hM.2 _ (u_12 0 (by decide))) k_12 (by decide) x_1276 (fun _ _ _ => rfl) dX12_act_98 ?_
          refine v_iload_n C 1 dX12_act_101 rfl ?_
          refine v_iconst (v := 0) C dX12_act_102 (by decide) ?_
          refine v_iast C 52 0 (hM.2 _ (u_52 0 (by decide))) ⟨by decide, rfl, rfl⟩ (v_in (N := 17) (by decide) (by clear C; grind) (by clear C; grind)) dX12_act_103 ?_
          refine v_w (w2 := (wS w 52 0 (upd (upd (w 52 0) ce.toNatClampNeg v2) ce.toNatClampNeg 0))) (by simp only [wS_s, wS_t, wS_a, ne_eq, Nat.reduceEqDiff, not_false_eq_true, wS_wS, wS_p, wS_pp, Nat.reduceLT, id_eq, L7_1]) ?_
          exact v_vret C dX12_act_104 (congr (congrArg Prod.mk (wS_eq rfl (by clear C; simp only [workG]; grind))) rfl)
      refine v_aload_n C 0 dX12_act_64 rfl ?_
      refine v_gR C 12 0 34 52 0 (hM.2 _ (u_12 0 (by decide))) k_12 (by decide) x_1276 (fun _ _ _ => rfl) dX12_act_65 ?_
      refine v_iload_n C 1 dX12_act_68 rfl ?_
      refine v_aload_n C 0 dX12_act_69 rfl ?_
      refine v_gR C 12 0 34 52 0 (hM.2 _ (u_12 0 (by decide))) k_12 (by decide) x_1276 (fun _ _ _ => rfl) dX12_act_70 ?_
      refine v_iload_n C 1 dX12_act_73 rfl ?_
      refine v_iald C 52 0 (hM.2 _ (u_52 0 (by decide))) ⟨by decide, rfl, rfl⟩ (v_in (N := 17) (by decide) (by clear C hL91; grind) (by clear C hL91; grind)) dX12_act_74 ?_
      refine v_iload_n C 3 dX12_act_75 rfl ?_
      refine v_ic_le C 90 dX12_act_76 (by decide) (fun c_76 => ?_) (fun c_76 => ?_)
      · refine v_iconst (v := 0) C dX12_act_90 (by decide) ?_
        exact hL91 0 (by clear C hL91; grind)
      · refine v_aload_n C 0 dX12_act_79 rfl ?_
        refine v_gR C 12 0 34 52 0 (hM.2 _ (u_12 0 (by decide))) k_12 (by decide) x_1276 (fun _ _ _ => rfl) dX12_act_80 ?_
        refine v_iload_n C 1 dX12_act_83 rfl ?_
        refine v_iald C 52 0 (hM.2 _ (u_52 0 (by decide))) ⟨by decide, rfl, rfl⟩ (v_in (N := 17) (by decide) (by clear C hL91; grind) (by clear C hL91; grind)) dX12_act_84 ?_
        refine v_iload_n C 3 dX12_act_85 rfl ?_
        refine v_isub C dX12_act_86 ?_
        refine v_goto C 91 dX12_act_87 (by decide) ?_
        exact hL91 (((w 52 0) ce.toNatClampNeg) - dr) (by clear C hL91; grind)
  · refine v_aload_n C 0 dX12_act_4 rfl ?_
    refine v_gR C 12 0 34 52 0 (hM.2 _ (u_12 0 (by decide))) k_12 (by decide) x_1276 (fun _ _ _ => rfl) dX12_act_5 ?_
    refine v_iload_n C 1 dX12_act_8 rfl ?_
    refine v_iald C 52 0 (hM.2 _ (u_52 0 (by decide))) ⟨by decide, rfl, rfl⟩ (v_in (N := 17) (by decide) (by clear C; grind) (by clear C; grind)) dX12_act_9 ?_
    refine v_aload_n C 0 dX12_act_10 rfl ?_
    refine v_gI C 12 0 15 1075 (w 1075 0 0) (hM.2 _ (u_12 0 (by decide))) k_12 (by decide) rfl rfl x_1257 rfl dX12_act_11 ?_
    refine v_ic_ge C 59 dX12_act_14 (by decide) (fun c_14 => ?_) (fun c_14 => ?_)
    · refine v_iload_n C 2 dX12_act_59 rfl ?_
      refine v_iconst (v := 2) C dX12_act_60 (by decide) ?_
      refine v_ic_ne C 92 dX12_act_61 (by decide) (fun c_61 => ?_) (fun c_61 => ?_)
      · refine v_iload_n C 2 dX12_act_92 rfl ?_
        refine v_iconst (v := 3) C dX12_act_93 (by decide) ?_
        refine v_ic_ne C 104 dX12_act_94 (by decide) (fun c_94 => ?_) (fun c_94 => ?_)
        · refine v_w (wS_id _ 52 0).symm ?_
          refine v_w (w2 := (wS w 52 0 (w 52 0))) (by simp only [wS_s, wS_t, wS_a, ne_eq, Nat.reduceEqDiff, not_false_eq_true, wS_wS, wS_p, wS_pp, Nat.reduceLT, id_eq, L7_1]) ?_
          exact v_vret C dX12_act_104 (congr (congrArg Prod.mk (wS_eq rfl (by clear C; simp only [workG]; grind))) rfl)
        · refine v_aload_n C 0 dX12_act_97 rfl ?_
          refine v_gR C 12 0 34 52 0 (hM.2 _ (u_12 0 (by decide))) k_12 (by decide) x_1276 (fun _ _ _ => rfl) dX12_act_98 ?_
          refine v_iload_n C 1 dX12_act_101 rfl ?_
          refine v_iconst (v := 0) C dX12_act_102 (by decide) ?_
          refine v_iast C 52 0 (hM.2 _ (u_52 0 (by decide))) ⟨by decide, rfl, rfl⟩ (v_in (N := 17) (by decide) (by clear C; grind) (by clear C; grind)) dX12_act_103 ?_
          exact v_vret C dX12_act_104 (congr (congrArg Prod.mk (wS_eq rfl (by clear C; simp only [workG]; grind))) rfl)
      · have hL91 : ∀ (v2 : Int32), (v2 = (if dr < (w 52 0) ce.toNatClampNeg then (w 52 0) ce.toNatClampNeg - dr else 0)) → V K E A 4 (QV K E A (P_X12_act w z ce wh dr)) 91 [(0, .ref (E.ad 12 0)), (1, .int ce), (2, .int wh), (3, .int dr)] [.int v2, .int ce, .ref (E.ad 52 0)] w z := by
          intro v2 hinv
          have e2 := hinv
          refine v_iast C 52 0 (hM.2 _ (u_52 0 (by decide))) ⟨by decide, rfl, rfl⟩ (v_in (N := 17) (by decide) (by clear C; grind) (by clear C; grind)) dX12_act_91 ?_
          refine v_iload_n C 2 dX12_act_92 rfl ?_
          refine v_iconst (v := 3) C dX12_act_93 (by decide) ?_
          refine v_ic_ne C 104 dX12_act_94 (by decide) (fun c_94 => ?_) (fun c_94 => ?_)
          · exact v_vret C dX12_act_104 (congr (congrArg Prod.mk (wS_eq rfl (by clear C; simp only [workG]; grind))) rfl)
          · refine v_aload_n C 0 dX12_act_97 rfl ?_
            refine v_gR C 12 0 34 52 0 (hM.2 _ (u_12 0 (by decide))) k_12 (by decide) x_1276 (fun _ _ _ => rfl) dX12_act_98 ?_
            refine v_iload_n C 1 dX12_act_101 rfl ?_
            refine v_iconst (v := 0) C dX12_act_102 (by decide) ?_
            refine v_iast C 52 0 (hM.2 _ (u_52 0 (by decide))) ⟨by decide, rfl, rfl⟩ (v_in (N := 17) (by decide) (by clear C; grind) (by clear C; grind)) dX12_act_103 ?_
            refine v_w (w2 := (wS w 52 0 (upd (upd (w 52 0) ce.toNatClampNeg v2) ce.toNatClampNeg 0))) (by simp only [wS_s, wS_t, wS_a, ne_eq, Nat.reduceEqDiff, not_false_eq_true, wS_wS, wS_p, wS_pp, Nat.reduceLT, id_eq, L7_1]) ?_
            exact v_vret C dX12_act_104 (congr (congrArg Prod.mk (wS_eq rfl (by clear C; simp only [workG]; grind))) rfl)
        refine v_aload_n C 0 dX12_act_64 rfl ?_
        refine v_gR C 12 0 34 52 0 (hM.2 _ (u_12 0 (by decide))) k_12 (by decide) x_1276 (fun _ _ _ => rfl) dX12_act_65 ?_
        refine v_iload_n C 1 dX12_act_68 rfl ?_
        refine v_aload_n C 0 dX12_act_69 rfl ?_
        refine v_gR C 12 0 34 52 0 (hM.2 _ (u_12 0 (by decide))) k_12 (by decide) x_1276 (fun _ _ _ => rfl) dX12_act_70 ?_
        refine v_iload_n C 1 dX12_act_73 rfl ?_
        refine v_iald C 52 0 (hM.2 _ (u_52 0 (by decide))) ⟨by decide, rfl, rfl⟩ (v_in (N := 17) (by decide) (by clear C hL91; grind) (by clear C hL91; grind)) dX12_act_74 ?_
        refine v_iload_n C 3 dX12_act_75 rfl ?_
        refine v_ic_le C 90 dX12_act_76 (by decide) (fun c_76 => ?_) (fun c_76 => ?_)
        · refine v_iconst (v := 0) C dX12_act_90 (by decide) ?_
          exact hL91 0 (by clear C hL91; grind)
        · refine v_aload_n C 0 dX12_act_79 rfl ?_
          refine v_gR C 12 0 34 52 0 (hM.2 _ (u_12 0 (by decide))) k_12 (by decide) x_1276 (fun _ _ _ => rfl) dX12_act_80 ?_
          refine v_iload_n C 1 dX12_act_83 rfl ?_
          refine v_iald C 52 0 (hM.2 _ (u_52 0 (by decide))) ⟨by decide, rfl, rfl⟩ (v_in (N := 17) (by decide) (by clear C hL91; grind) (by clear C hL91; grind)) dX12_act_84 ?_
          refine v_iload_n C 3 dX12_act_85 rfl ?_
          refine v_isub C dX12_act_86 ?_
          refine v_goto C 91 dX12_act_87 (by decide) ?_
          exact hL91 (((w 52 0) ce.toNatClampNeg) - dr) (by clear C hL91; grind)
    · have hL58 : ∀ (v : Int32), (v = (if (w 52 0) ce.toNatClampNeg + (w 1076 0 0) < (w 1075 0 0) then (w 52 0) ce.toNatClampNeg + (w 1076 0 0) else (w 1075 0 0))) → V K E A 4 (QV K E A (P_X12_act w z ce wh dr)) 58 [(0, .ref (E.ad 12 0)), (1, .int ce), (2, .int wh), (3, .int dr)] [.int v, .int ce, .ref (E.ad 52 0)] w z := by
        intro v hinv
        have e1 := hinv
        refine v_iast C 52 0 (hM.2 _ (u_52 0 (by decide))) ⟨by decide, rfl, rfl⟩ (v_in (N := 17) (by decide) (by clear C; grind) (by clear C; grind)) dX12_act_58 ?_
        refine v_iload_n C 2 dX12_act_59 rfl ?_
        refine v_iconst (v := 2) C dX12_act_60 (by decide) ?_
        refine v_ic_ne C 92 dX12_act_61 (by decide) (fun c_61 => ?_) (fun c_61 => ?_)
        · refine v_iload_n C 2 dX12_act_92 rfl ?_
          refine v_iconst (v := 3) C dX12_act_93 (by decide) ?_
          refine v_ic_ne C 104 dX12_act_94 (by decide) (fun c_94 => ?_) (fun c_94 => ?_)
          · exact v_vret C dX12_act_104 (congr (congrArg Prod.mk (wS_eq rfl (by clear C; simp only [workG]; grind))) rfl)
          · refine v_aload_n C 0 dX12_act_97 rfl ?_
            refine v_gR C 12 0 34 52 0 (hM.2 _ (u_12 0 (by decide))) k_12 (by decide) x_1276 (fun _ _ _ => rfl) dX12_act_98 ?_
            refine v_iload_n C 1 dX12_act_101 rfl ?_
            refine v_iconst (v := 0) C dX12_act_102 (by decide) ?_
            refine v_iast C 52 0 (hM.2 _ (u_52 0 (by decide))) ⟨by decide, rfl, rfl⟩ (v_in (N := 17) (by decide) (by clear C; grind) (by clear C; grind)) dX12_act_103 ?_
            refine v_w (w2 := (wS w 52 0 (upd (upd (w 52 0) ce.toNatClampNeg v) ce.toNatClampNeg 0))) (by simp only [wS_s, wS_t, wS_a, ne_eq, Nat.reduceEqDiff, not_false_eq_true, wS_wS, wS_p, wS_pp, Nat.reduceLT, id_eq, L7_1]) ?_
            exact v_vret C dX12_act_104 (congr (congrArg Prod.mk (wS_eq rfl (by clear C; simp only [workG]; grind))) rfl)
        · have hL91 : ∀ (v2 : Int32), (v2 = (if dr < (upd (w 52 0) ce.toNatClampNeg v) ce.toNatClampNeg then (upd (w 52 0) ce.toNatClampNeg v) ce.toNatClampNeg - dr else 0)) → V K E A 4 (QV K E A (P_X12_act w z ce wh dr)) 91 [(0, .ref (E.ad 12 0)), (1, .int ce), (2, .int wh), (3, .int dr)] [.int v2, .int ce, .ref (E.ad 52 0)] (wS w 52 0 (upd (w 52 0) ce.toNatClampNeg v)) z := by
            intro v2 hinv
            have e2 := hinv
            refine v_iast C 52 0 (hM.2 _ (u_52 0 (by decide))) ⟨by decide, rfl, rfl⟩ (v_in (N := 17) (by decide) (by clear C; grind) (by clear C; grind)) dX12_act_91 ?_
            refine v_iload_n C 2 dX12_act_92 rfl ?_
            refine v_iconst (v := 3) C dX12_act_93 (by decide) ?_
            refine v_ic_ne C 104 dX12_act_94 (by decide) (fun c_94 => ?_) (fun c_94 => ?_)
            · refine v_w (w2 := (wS w 52 0 (upd (upd (w 52 0) ce.toNatClampNeg v) ce.toNatClampNeg v2))) (by simp only [wS_s, wS_t, wS_a, ne_eq, Nat.reduceEqDiff, not_false_eq_true, wS_wS, wS_p, wS_pp, Nat.reduceLT, id_eq, L7_1]) ?_
              exact v_vret C dX12_act_104 (congr (congrArg Prod.mk (wS_eq rfl (by clear C; simp only [workG]; grind))) rfl)
            · refine v_aload_n C 0 dX12_act_97 rfl ?_
              refine v_gR C 12 0 34 52 0 (hM.2 _ (u_12 0 (by decide))) k_12 (by decide) x_1276 (fun _ _ _ => rfl) dX12_act_98 ?_
              refine v_iload_n C 1 dX12_act_101 rfl ?_
              refine v_iconst (v := 0) C dX12_act_102 (by decide) ?_
              refine v_iast C 52 0 (hM.2 _ (u_52 0 (by decide))) ⟨by decide, rfl, rfl⟩ (v_in (N := 17) (by decide) (by clear C; grind) (by clear C; grind)) dX12_act_103 ?_
              refine v_w (w2 := (wS w 52 0 (upd (upd (upd (w 52 0) ce.toNatClampNeg v) ce.toNatClampNeg v2) ce.toNatClampNeg 0))) (by simp only [wS_s, wS_t, wS_a, ne_eq, Nat.reduceEqDiff, not_false_eq_true, wS_wS, wS_p, wS_pp, Nat.reduceLT, id_eq, L7_1]) ?_
              exact v_vret C dX12_act_104 (congr (congrArg Prod.mk (wS_eq rfl (by clear C; simp only [workG]; grind))) rfl)
          refine v_aload_n C 0 dX12_act_64 rfl ?_
          refine v_gR C 12 0 34 52 0 (hM.2 _ (u_12 0 (by decide))) k_12 (by decide) x_1276 (fun _ _ _ => rfl) dX12_act_65 ?_
          refine v_iload_n C 1 dX12_act_68 rfl ?_
          refine v_aload_n C 0 dX12_act_69 rfl ?_
          refine v_gR C 12 0 34 52 0 (hM.2 _ (u_12 0 (by decide))) k_12 (by decide) x_1276 (fun _ _ _ => rfl) dX12_act_70 ?_
          refine v_iload_n C 1 dX12_act_73 rfl ?_
          refine v_iald C 52 0 (hM.2 _ (u_52 0 (by decide))) ⟨by decide, rfl, rfl⟩ (v_in (N := 17) (by decide) (by clear C hL91; grind) (by clear C hL91; grind)) dX12_act_74 ?_
          refine v_i (y := ((upd (w 52 0) ce.toNatClampNeg v) ce.toNatClampNeg)) (by simp only [wS_s, wS_t, wS_a, ne_eq, Nat.reduceEqDiff, not_false_eq_true, L7_1]) ?_
          refine v_iload_n C 3 dX12_act_75 rfl ?_
          refine v_ic_le C 90 dX12_act_76 (by decide) (fun c_76 => ?_) (fun c_76 => ?_)
          · refine v_iconst (v := 0) C dX12_act_90 (by decide) ?_
            exact hL91 0 (by clear C hL91; grind)
          · refine v_aload_n C 0 dX12_act_79 rfl ?_
            refine v_gR C 12 0 34 52 0 (hM.2 _ (u_12 0 (by decide))) k_12 (by decide) x_1276 (fun _ _ _ => rfl) dX12_act_80 ?_
            refine v_iload_n C 1 dX12_act_83 rfl ?_
            refine v_iald C 52 0 (hM.2 _ (u_52 0 (by decide))) ⟨by decide, rfl, rfl⟩ (v_in (N := 17) (by decide) (by clear C hL91; grind) (by clear C hL91; grind)) dX12_act_84 ?_
            refine v_i (y := ((upd (w 52 0) ce.toNatClampNeg v) ce.toNatClampNeg)) (by simp only [wS_s, wS_t, wS_a, ne_eq, Nat.reduceEqDiff, not_false_eq_true, L7_1]) ?_
            refine v_iload_n C 3 dX12_act_85 rfl ?_
            refine v_isub C dX12_act_86 ?_
            refine v_goto C 91 dX12_act_87 (by decide) ?_
            exact hL91 (((upd (w 52 0) ce.toNatClampNeg v) ce.toNatClampNeg) - dr) (by clear C hL91; grind)
      refine v_aload_n C 0 dX12_act_17 rfl ?_
      refine v_gR C 12 0 34 52 0 (hM.2 _ (u_12 0 (by decide))) k_12 (by decide) x_1276 (fun _ _ _ => rfl) dX12_act_18 ?_
      refine v_iload_n C 1 dX12_act_21 rfl ?_
      refine v_aload_n C 0 dX12_act_22 rfl ?_
      refine v_gR C 12 0 34 52 0 (hM.2 _ (u_12 0 (by decide))) k_12 (by decide) x_1276 (fun _ _ _ => rfl) dX12_act_23 ?_
      refine v_iload_n C 1 dX12_act_26 rfl ?_
      refine v_iald C 52 0 (hM.2 _ (u_52 0 (by decide))) ⟨by decide, rfl, rfl⟩ (v_in (N := 17) (by decide) (by clear C hL58; grind) (by clear C hL58; grind)) dX12_act_27 ?_
      refine v_aload_n C 0 dX12_act_28 rfl ?_
      refine v_gI C 12 0 16 1076 (w 1076 0 0) (hM.2 _ (u_12 0 (by decide))) k_12 (by decide) rfl rfl x_1258 rfl dX12_act_29 ?_
      refine v_iadd C dX12_act_32 ?_
      refine v_aload_n C 0 dX12_act_33 rfl ?_
      refine v_gI C 12 0 15 1075 (w 1075 0 0) (hM.2 _ (u_12 0 (by decide))) k_12 (by decide) rfl rfl x_1257 rfl dX12_act_34 ?_
      refine v_ic_ge C 54 dX12_act_37 (by decide) (fun c_37 => ?_) (fun c_37 => ?_)
      · refine v_aload_n C 0 dX12_act_54 rfl ?_
        refine v_gI C 12 0 15 1075 (w 1075 0 0) (hM.2 _ (u_12 0 (by decide))) k_12 (by decide) rfl rfl x_1257 rfl dX12_act_55 ?_
        exact hL58 (w 1075 0 0) (by clear C hL58; grind)
      · refine v_aload_n C 0 dX12_act_40 rfl ?_
        refine v_gR C 12 0 34 52 0 (hM.2 _ (u_12 0 (by decide))) k_12 (by decide) x_1276 (fun _ _ _ => rfl) dX12_act_41 ?_
        refine v_iload_n C 1 dX12_act_44 rfl ?_
        refine v_iald C 52 0 (hM.2 _ (u_52 0 (by decide))) ⟨by decide, rfl, rfl⟩ (v_in (N := 17) (by decide) (by clear C hL58; grind) (by clear C hL58; grind)) dX12_act_45 ?_
        refine v_aload_n C 0 dX12_act_46 rfl ?_
        refine v_gI C 12 0 16 1076 (w 1076 0 0) (hM.2 _ (u_12 0 (by decide))) k_12 (by decide) rfl rfl x_1258 rfl dX12_act_47 ?_
        refine v_iadd C dX12_act_50 ?_
        refine v_goto C 58 dX12_act_51 (by decide) ?_
        exact hL58 (((w 52 0) ce.toNatClampNeg) + (w 1076 0 0)) (by clear C hL58; grind)
abbrev P_X12_begin (w : Wi) (z : Wj) : WW → Prop := fun u_ => u_ = ((wS (wS (wS w 52 0 (fillR (w 52 0) (w 1075 0 0) ((w 1074 0 0) + 1).toNatClampNeg)) 53 0 (fillR (w 53 0) (w 1075 0 0) ((w 1074 0 0) + 1).toNatClampNeg)) 54 0 (fillR (w 54 0) 0 ((w 1074 0 0) + 1).toNatClampNeg)), z)
set_option maxHeartbeats 4000000 in
set_option maxRecDepth 100000 in
theorem c_X12_begin (E : En) (hM : q_okM E) (w : Wi) (z : Wj) (h1 : 1 ≤ (w 1074 0 0)) (h2 : (w 1074 0 0) ≤ 16) : CtV M_X12_begin E [.ref (E.ad 12 0)] w z (P_X12_begin w z) := by
  have hE := hM.1
  refine ctV_of (lv := [(0, .ref (E.ad 12 0))]) hE m_X12_begin (Nat.le_of_ble_eq_true rfl) rfl ?_
  intro K A C0
  have C : Cx K E A cX12_begin 2 RX12 none { frames := 0, cells := 0, slots := 0, locals := 0 } := C0
  clear C0
  refine v_iconst (v := 0) C dX12_begin_0 (by decide) ?_
  refine v_istore_n (lv2 := [(1, .int 0), (0, .ref (E.ad 12 0))]) C dX12_begin_1 rfl (by decide) rfl ?_
  have hL2 : ∀ (n_ : Nat) (i : Int32) (Pp : Row) (Tt : Row) (Yy : Row), (17 - i).toNatClampNeg < n_ → (0 ≤ i ∧ i ≤ (w 1074 0 0) + 1 ∧ Pp = fillR (w 52 0) (w 1075 0 0) i.toNatClampNeg ∧ Tt = fillR (w 53 0) (w 1075 0 0) i.toNatClampNeg ∧ Yy = fillR (w 54 0) 0 i.toNatClampNeg) → V K E A 2 (QV K E A (P_X12_begin w z)) 2 [(1, .int i), (0, .ref (E.ad 12 0))] [] (wS (wS (wS w 52 0 Pp) 53 0 Tt) 54 0 Yy) z := by
    intro n_
    induction n_ with
    | zero => intro i Pp Tt Yy hm_; exact absurd hm_ (Nat.not_lt_zero _)
    | succ n_ ih_2 =>
      intro i Pp Tt Yy hm_ hinv
      obtain ⟨g1, g2, eP, eT, eY⟩ := hinv
      refine v_iload_n C 0 dX12_begin_2 rfl ?_
      refine v_aload_n C 1 dX12_begin_3 rfl ?_
      refine v_gI C 12 0 14 1074 (w 1074 0 0) (hM.2 _ (u_12 0 (by decide))) k_12 (by decide) rfl rfl x_1256 (by simp only [wS_s, wS_t, wS_a, ne_eq, Nat.reduceEqDiff, not_false_eq_true, L7_1]) dX12_begin_4 ?_
      refine v_ic_gt C 43 dX12_begin_7 (by decide) (fun c_7 => ?_) (fun c_7 => ?_)
      · exact v_vret C dX12_begin_43 (congr (congrArg Prod.mk (wS_eq (wS_eq (wS_eq rfl (by clear C ih_2; have hi : i = (w 1074 0 0) + 1 := (by grind); subst hi; assumption)) (by clear C ih_2; have hi : i = (w 1074 0 0) + 1 := (by grind); subst hi; assumption)) (by clear C ih_2; have hi : i = (w 1074 0 0) + 1 := (by grind); subst hi; assumption))) rfl)
      · refine v_aload_n C 1 dX12_begin_10 rfl ?_
        refine v_gR C 12 0 34 52 0 (hM.2 _ (u_12 0 (by decide))) k_12 (by decide) x_1276 (fun _ _ _ => rfl) dX12_begin_11 ?_
        refine v_iload_n C 0 dX12_begin_14 rfl ?_
        refine v_aload_n C 1 dX12_begin_15 rfl ?_
        refine v_gI C 12 0 15 1075 (w 1075 0 0) (hM.2 _ (u_12 0 (by decide))) k_12 (by decide) rfl rfl x_1257 (by simp only [wS_s, wS_t, wS_a, ne_eq, Nat.reduceEqDiff, not_false_eq_true, L7_1]) dX12_begin_16 ?_
        refine v_iast C 52 0 (hM.2 _ (u_52 0 (by decide))) ⟨by decide, rfl, rfl⟩ (v_in (N := 17) (by decide) (by clear C ih_2; grind) (by clear C ih_2; grind)) dX12_begin_19 ?_
        refine v_aload_n C 1 dX12_begin_20 rfl ?_
        refine v_gR C 12 0 35 53 0 (hM.2 _ (u_12 0 (by decide))) k_12 (by decide) x_1277 (fun _ _ _ => rfl) dX12_begin_21 ?_
        refine v_iload_n C 0 dX12_begin_24 rfl ?_
        refine v_aload_n C 1 dX12_begin_25 rfl ?_
        refine v_gI C 12 0 15 1075 (w 1075 0 0) (hM.2 _ (u_12 0 (by decide))) k_12 (by decide) rfl rfl x_1257 (by simp only [wS_s, wS_t, wS_a, ne_eq, Nat.reduceEqDiff, not_false_eq_true, L7_1]) dX12_begin_26 ?_
        refine v_iast C 53 0 (hM.2 _ (u_53 0 (by decide))) ⟨by decide, rfl, rfl⟩ (v_in (N := 17) (by decide) (by clear C ih_2; grind) (by clear C ih_2; grind)) dX12_begin_29 ?_
        refine v_aload_n C 1 dX12_begin_30 rfl ?_
        refine v_gR C 12 0 36 54 0 (hM.2 _ (u_12 0 (by decide))) k_12 (by decide) x_1278 (fun _ _ _ => rfl) dX12_begin_31 ?_
        refine v_iload_n C 0 dX12_begin_34 rfl ?_
        refine v_iconst (v := 0) C dX12_begin_35 (by decide) ?_
        refine v_iast C 54 0 (hM.2 _ (u_54 0 (by decide))) ⟨by decide, rfl, rfl⟩ (v_in (N := 17) (by decide) (by clear C ih_2; grind) (by clear C ih_2; grind)) dX12_begin_36 ?_
        refine v_iinc (v := i + 1) (lv2 := [(1, .int (i + 1)), (0, .ref (E.ad 12 0))]) C 0 dX12_begin_37 rfl rfl (by decide) rfl ?_
        refine v_goto C 2 dX12_begin_40 (by decide) ?_
        refine v_w (w2 := (wS (wS (wS w 52 0 (upd Pp i.toNatClampNeg (w 1075 0 0))) 53 0 (upd Tt i.toNatClampNeg (w 1075 0 0))) 54 0 (upd Yy i.toNatClampNeg 0))) (by simp only [wS_s, wS_t, wS_a, ne_eq, Nat.reduceEqDiff, not_false_eq_true, wS_wS, wS_p, wS_pp, Nat.reduceLT, id_eq, L7_1]) ?_
        exact ih_2 (i + 1) (upd Pp i.toNatClampNeg (w 1075 0 0)) (upd Tt i.toNatClampNeg (w 1075 0 0)) (upd Yy i.toNatClampNeg 0) (by clear C ih_2; exact Nat.lt_of_lt_of_le (m_up (by grind) (by grind)) (Nat.le_of_lt_succ hm_)) (by clear C ih_2; exact ⟨by grind, by grind, by rw [cl_succ (by grind) (by grind), ← fillR_s, eP], by rw [cl_succ (by grind) (by grind), ← fillR_s, eT], by rw [cl_succ (by grind) (by grind), ← fillR_s, eY]⟩)
  refine v_w (wS_id _ 52 0).symm ?_
  refine v_w (wS_id _ 53 0).symm ?_
  refine v_w (wS_id _ 54 0).symm ?_
  refine v_w (w2 := (wS (wS (wS w 52 0 (w 52 0)) 53 0 (w 53 0)) 54 0 (w 54 0))) (by simp only [wS_s, wS_t, wS_a, ne_eq, Nat.reduceEqDiff, not_false_eq_true, wS_wS, wS_p, wS_pp, Nat.reduceLT, id_eq, L7_1]) ?_
  exact hL2 _ 0 (w 52 0) (w 53 0) (w 54 0) (Nat.lt_succ_self _) (by clear C hL2; exact ⟨by decide, by grind, (fillR_0 _ _).symm, (fillR_0 _ _).symm, (fillR_0 _ _).symm⟩)
