abbrev P_X2_readGauges (w : Wi) (z : Wj) : Int32 → WW → Prop := fun r_ u_ => ∃ (uh_ : Wi), r_ = (if (w 661 0 0) - (w 661 0 0) / 6 * 6 = 0 ∧ 1 ≤ ((w 661 0 0) / 6) ∧ ((w 661 0 0) / 6) ≤ 8 then gOk (w 37 0) (((w 661 0 0) / 6)).toNatClampNeg 0 else 0) ∧ u_ = ((wB w SC7 uh_), z) ∧ (r_ ≠ 0 → uh_ 267 0 0 = ((w 661 0 0) / 6) ∧ uh_ 268 0 0 = gMx (w 37 0) (((w 661 0 0) / 6)).toNatClampNeg ∧ ∀ k, k < (((w 661 0 0) / 6)).toNatClampNeg → uh_ 21 0 k = pairF (w 37 0) (6 * k) ∧ uh_ 22 0 k = pairF (w 37 0) (6 * k + 2) ∧ uh_ 23 0 k = pairF (w 37 0) (6 * k + 4))
set_option maxHeartbeats 4000000 in
set_option maxRecDepth 100000 in
theorem c_X2_readGauges (E : En) (hE : q_ok E) (w : Wi) (z : Wj) (h1 : 0 ≤ (w 661 0 0)) (h2 : (w 661 0 0) ≤ 740) : CtI M_X2_readGauges E [.ref (E.ad 2 0), .ref (E.ad 7 0)] w z (P_X2_readGauges w z) := by
  refine ctI_of (lv := [(0, .ref (E.ad 2 0)), (1, .ref (E.ad 7 0))]) hE m_X2_readGauges (Nat.le_of_ble_eq_true rfl) rfl ?_
  intro K A C0
  have C : Cx K E A cX2_readGauges 6 RX2 (some .boolean) { frames := 2, cells := 0, slots := 0, locals := 42 } := C0
  clear C0
  refine v_aload_n C 1 dX2_readGauges_0 rfl ?_
  refine v_gI C 7 0 1 661 (w 661 0 0) (C_m C (u_7 0 (by decide))) k_7 (by decide) rfl rfl x_113 rfl dX2_readGauges_1 ?_
  refine v_bipush (v := 6) C dX2_readGauges_4 (by decide) ?_
  refine v_idiv C dX2_readGauges_6 (by decide) ?_
  refine v_istore_n (lv2 := [(2, .int ((w 661 0 0) / 6)), (0, .ref (E.ad 2 0)), (1, .ref (E.ad 7 0))]) C dX2_readGauges_7 rfl (by decide) rfl ?_
  have hL8 : ∀ (n : Int32), (n = ((w 661 0 0) / 6)) → V K E A 6 (QI K E A (P_X2_readGauges w z)) 8 [(2, .int n), (0, .ref (E.ad 2 0)), (1, .ref (E.ad 7 0))] [] w z := by
    intro n hinv
    have en := hinv
    refine v_aload_n C 1 dX2_readGauges_8 rfl ?_
    refine v_iconst (v := 0) C dX2_readGauges_9 (by decide) ?_
    refine v_pI C 2 0 7 267 (C_m C (u_2 0 (by decide))) k_2 ty_2 (by decide) rfl ⟨rfl, rfl⟩ x_417 rfl rfl dX2_readGauges_10 ?_
    refine v_aload_n C 1 dX2_readGauges_13 rfl ?_
    refine v_iconst (v := 0) C dX2_readGauges_14 (by decide) ?_
    refine v_pI C 2 0 8 268 (C_m C (u_2 0 (by decide))) k_2 ty_2 (by decide) rfl ⟨rfl, rfl⟩ x_418 rfl rfl dX2_readGauges_15 ?_
    refine v_aload_n C 2 dX2_readGauges_18 rfl ?_
    refine v_gI C 7 0 1 661 (w 661 0 0) (C_m C (u_7 0 (by decide))) k_7 (by decide) rfl rfl x_113 (by simp only [wS_s, wS_t, wS_a, ne_eq, Nat.reduceEqDiff, not_false_eq_true]) dX2_readGauges_19 ?_
    refine v_bipush (v := 6) C dX2_readGauges_22 (by decide) ?_
    refine v_irem C dX2_readGauges_24 (by decide) ?_
    refine v_if_ne C 39 dX2_readGauges_25 (by decide) (fun c_25 => ?_) (fun c_25 => ?_)
    · refine v_iconst (v := 0) C dX2_readGauges_39 (by decide) ?_
      exact v_zret C dX2_readGauges_40 (by decide) ⟨_, (by clear C; rw [if_neg (by grind)]), (congr (congrArg Prod.mk (kp_e (kp_S (by decide) (kp_S (by decide) kp_r)))) rfl), (by exact fun q => absurd rfl q)⟩
    · refine v_iload_n C 0 dX2_readGauges_28 rfl ?_
      refine v_iconst (v := 1) C dX2_readGauges_29 (by decide) ?_
      refine v_ic_lt C 39 dX2_readGauges_30 (by decide) (fun c_30 => ?_) (fun c_30 => ?_)
      · refine v_iconst (v := 0) C dX2_readGauges_39 (by decide) ?_
        exact v_zret C dX2_readGauges_40 (by decide) ⟨_, (by clear C; rw [if_neg (by grind)]), (congr (congrArg Prod.mk (kp_e (kp_S (by decide) (kp_S (by decide) kp_r)))) rfl), (by exact fun q => absurd rfl q)⟩
      · refine v_iload_n C 0 dX2_readGauges_33 rfl ?_
        refine v_bipush (v := 8) C dX2_readGauges_34 (by decide) ?_
        refine v_ic_le C 41 dX2_readGauges_36 (by decide) (fun c_36 => ?_) (fun c_36 => ?_)
        · refine v_iconst (v := 0) C dX2_readGauges_41 (by decide) ?_
          refine v_istore_n (lv2 := [(3, .int 0), (2, .int n), (0, .ref (E.ad 2 0)), (1, .ref (E.ad 7 0))]) C dX2_readGauges_42 rfl (by decide) rfl ?_
          have hL43 : ∀ (n_ : Nat) (i : Int32) (U : Wi), (100 - i).toNatClampNeg < n_ → (0 ≤ i ∧ i ≤ n ∧ (U 268 0 0 = gMx (w 37 0) i.toNatClampNeg ∧ ∀ k, k < i.toNatClampNeg → U 21 0 k = pairF (w 37 0) (6 * k) ∧ U 22 0 k = pairF (w 37 0) (6 * k + 2) ∧ U 23 0 k = pairF (w 37 0) (6 * k + 4)) ∧ gOk (w 37 0) (n - i).toNatClampNeg i.toNatClampNeg = gOk (w 37 0) n.toNatClampNeg 0) → V K E A 6 (QI K E A (P_X2_readGauges w z)) 43 [(3, .int i), (2, .int n), (0, .ref (E.ad 2 0)), (1, .ref (E.ad 7 0))] [] (wB w SC7 U) z := by
            intro n_
            induction n_ with
            | zero => intro i U hm_; exact absurd hm_ (Nat.not_lt_zero _)
            | succ n_ ih_43 =>
              intro i U hm_ hinv
              obtain ⟨g1, g2, ⟨gm, gr⟩, g3⟩ := hinv
              have hz : n ≤ 8 := by clear g3 gr; grind
              have hy : (w 661 0 0) = n * 6 := by clear g3 gr; grind
              refine v_iload_n C 0 dX2_readGauges_43 rfl ?_
              refine v_iload_n C 1 dX2_readGauges_44 rfl ?_
              refine v_ic_ge C 139 dX2_readGauges_45 (by decide) (fun c_45 => ?_) (fun c_45 => ?_)
              · refine v_aload_n C 2 dX2_readGauges_139 rfl ?_
                refine v_iload_n C 1 dX2_readGauges_140 rfl ?_
                refine v_pI C 2 0 7 267 (C_m C (u_2 0 (by decide))) k_2 ty_2 (by decide) rfl ⟨rfl, rfl⟩ x_417 rfl rfl dX2_readGauges_141 ?_
                refine v_iconst (v := 1) C dX2_readGauges_144 (by decide) ?_
                exact v_zret C dX2_readGauges_145 (by decide) ⟨_, (by clear C ih_43; rw [if_pos (by clear g3 gr; grind), ← en, ← g3, show n - i = 0 by clear g3 gr; grind]; rfl), (congr (congrArg Prod.mk (kp_e (kp_S (by decide) (kp_B (by decide) kp_r)))) rfl), (by simp (decide := true) only [wB_o, wB_i, wS_s, wS_t, wS_a, ne_eq, Nat.reduceEqDiff, not_false_eq_true]; intro _; rw [← en]; have hi : n = i := (by clear g3 gr; grind); rw [hi]; exact ⟨rfl, gm, gr⟩)⟩
              · refine v_iload_n C 0 dX2_readGauges_48 rfl ?_
                refine v_bipush (v := 8) C dX2_readGauges_49 (by decide) ?_
                refine v_ic_ge C 139 dX2_readGauges_51 (by decide) (fun c_51 => absurd c_51 (by clear C ih_43; clear g3 gr; grind)) (fun c_51 => ?_)
                refine v_iload_n C 0 dX2_readGauges_54 rfl ?_
                refine v_bipush (v := 6) C dX2_readGauges_55 (by decide) ?_
                refine v_imul C dX2_readGauges_57 ?_
                refine v_istore (lv2 := [(4, .int (i * 6)), (3, .int i), (2, .int n), (0, .ref (E.ad 2 0)), (1, .ref (E.ad 7 0))]) C dX2_readGauges_58 (by decide) rfl ?_
                refine v_aload_n C 4 dX2_readGauges_60 rfl ?_
                refine v_iload C 0 dX2_readGauges_61 rfl ?_
                refine v_vI C 7 0 [.int (i * 6)] 1 (c_X7_pairAt E hE _ _  (i * 6)  (by clear C ih_43; (try simp (decide := true) only [wB_o, wB_i, wS_s, wS_t, wS_a, ne_eq, Nat.reduceEqDiff, not_false_eq_true]); assumption)) m_X7_pairAt x_1003 x_1004 x_1005 p_X7_pairAt rfl ⟨Nat.le_of_ble_eq_true rfl, Nat.le_of_ble_eq_true rfl⟩ (C_m C (u_7 0 (by decide))) k_7 rfl (Nat.le_of_ble_eq_true rfl) dX2_readGauges_63 (fun r1 u1 v1 hp1 => ?_)
                obtain ⟨hr1, hu1⟩ := hp1
                subst hr1
                cases hu1
                refine v_i (y := (if 0 ≤ (i * 6) ∧ (i * 6) < (w 661 0 0) then (w 37 0) ((i * 6)).toNatClampNeg else (-1)) * 256 + (if 0 ≤ (i * 6) + 1 ∧ (i * 6) + 1 < (w 661 0 0) then (w 37 0) ((i * 6) + 1).toNatClampNeg else (-1))) (by simp (decide := true) only [wB_o, wB_i, wS_s, wS_t, wS_a, ne_eq, Nat.reduceEqDiff, not_false_eq_true]) ?_
                have hL66 : ∀ (tk : Int32), (tk = pairF (w 37 0) (6 * i.toNatClampNeg)) → V K E A 6 (QI K E A (P_X2_readGauges w z)) 66 [(4, .int (i * 6)), (3, .int i), (2, .int n), (0, .ref (E.ad 2 0)), (1, .ref (E.ad 7 0))] [.int tk] (wB w SC7 U) z := by
                  intro tk hinv
                  have et := hinv
                  refine v_istore (lv2 := [(5, .int tk), (4, .int (i * 6)), (3, .int i), (2, .int n), (0, .ref (E.ad 2 0)), (1, .ref (E.ad 7 0))]) C dX2_readGauges_66 (by decide) rfl ?_
                  refine v_iload C 0 dX2_readGauges_68 rfl ?_
                  refine v_iconst (v := 1) C dX2_readGauges_70 (by decide) ?_
                  refine v_ic_lt C 82 dX2_readGauges_71 (by decide) (fun c_71 => ?_) (fun c_71 => ?_)
                  · refine v_iconst (v := 0) C dX2_readGauges_82 (by decide) ?_
                    exact v_zret C dX2_readGauges_83 (by decide) ⟨_, (by clear C ih_43; rw [if_pos (by clear g3 gr; grind), ← en, ← g3, m_dnn g1 (by clear g3 gr; grind)]; simp only [gOk]; rw [if_pos (by rw [← et]; clear g3 gr; grind)]), (congr (congrArg Prod.mk (kp_e (kp_B (by decide) kp_r))) rfl), (by exact fun q => absurd rfl q)⟩
                  · refine v_iload C 0 dX2_readGauges_74 rfl ?_
                    refine v_sipush (v := 400) C dX2_readGauges_76 (by decide) ?_
                    refine v_ic_le C 84 dX2_readGauges_79 (by decide) (fun c_79 => ?_) (fun c_79 => ?_)
                    · refine v_aload_n C 4 dX2_readGauges_84 rfl ?_
                      refine v_gR C 2 0 4 21 0 (C_m C (u_2 0 (by decide))) k_2 (by decide) x_414 (fun _ _ _ => rfl) dX2_readGauges_85 ?_
                      refine v_iload_n C 2 dX2_readGauges_88 rfl ?_
                      refine v_iload C 0 dX2_readGauges_89 rfl ?_
                      refine v_iast C 21 0 (C_m C (u_21 0 (by decide))) ⟨by decide, rfl, rfl⟩ (by exact v_in (N := 8) (by decide) (by clear g3 gr; grind) (by clear g3 gr; grind)) dX2_readGauges_91 ?_
                      refine v_aload_n C 4 dX2_readGauges_92 rfl ?_
                      refine v_gR C 2 0 5 22 0 (C_m C (u_2 0 (by decide))) k_2 (by decide) x_415 (fun _ _ _ => rfl) dX2_readGauges_93 ?_
                      refine v_iload_n C 2 dX2_readGauges_96 rfl ?_
                      refine v_aload_n C 5 dX2_readGauges_97 rfl ?_
                      refine v_iload C 1 dX2_readGauges_98 rfl ?_
                      refine v_iconst (v := 2) C dX2_readGauges_100 (by decide) ?_
                      refine v_iadd C dX2_readGauges_101 ?_
                      refine v_vI C 7 0 [.int ((i * 6) + 2)] 1 (c_X7_pairAt E hE _ _  ((i * 6) + 2)  (by clear C ih_43; (try simp (decide := true) only [wB_o, wB_i, wS_s, wS_t, wS_a, ne_eq, Nat.reduceEqDiff, not_false_eq_true]); assumption)) m_X7_pairAt x_1003 x_1004 x_1005 p_X7_pairAt rfl ⟨Nat.le_of_ble_eq_true rfl, Nat.le_of_ble_eq_true rfl⟩ (C_m C (u_7 0 (by decide))) k_7 rfl (Nat.le_of_ble_eq_true rfl) dX2_readGauges_102 (fun r2 u2 v2 hp2 => ?_)
                      obtain ⟨hr2, hu2⟩ := hp2
                      subst hr2
                      cases hu2
                      refine v_i (y := (if 0 ≤ ((i * 6) + 2) ∧ ((i * 6) + 2) < (w 661 0 0) then (w 37 0) (((i * 6) + 2)).toNatClampNeg else (-1)) * 256 + (if 0 ≤ ((i * 6) + 2) + 1 ∧ ((i * 6) + 2) + 1 < (w 661 0 0) then (w 37 0) (((i * 6) + 2) + 1).toNatClampNeg else (-1))) (by simp (decide := true) only [wB_o, wB_i, wS_s, wS_t, wS_a, ne_eq, Nat.reduceEqDiff, not_false_eq_true]) ?_
                      have hL105 : ∀ (fv : Int32), (fv = pairF (w 37 0) (6 * i.toNatClampNeg + 2)) → V K E A 6 (QI K E A (P_X2_readGauges w z)) 105 [(5, .int tk), (4, .int (i * 6)), (3, .int i), (2, .int n), (0, .ref (E.ad 2 0)), (1, .ref (E.ad 7 0))] [.int fv, .int i, .ref (E.ad 22 0)] (wS (wB w SC7 U) 21 0 (upd (U 21 0) i.toNatClampNeg tk)) z := by
                        intro fv hinv
                        have ef := hinv
                        refine v_iast C 22 0 (C_m C (u_22 0 (by decide))) ⟨by decide, rfl, rfl⟩ (by exact v_in (N := 8) (by decide) (by clear g3 gr; grind) (by clear g3 gr; grind)) dX2_readGauges_105 ?_
                        refine v_aload_n C 4 dX2_readGauges_106 rfl ?_
                        refine v_gR C 2 0 6 23 0 (C_m C (u_2 0 (by decide))) k_2 (by decide) x_416 (fun _ _ _ => rfl) dX2_readGauges_107 ?_
                        refine v_iload_n C 2 dX2_readGauges_110 rfl ?_
                        refine v_aload_n C 5 dX2_readGauges_111 rfl ?_
                        refine v_iload C 1 dX2_readGauges_112 rfl ?_
                        refine v_iconst (v := 4) C dX2_readGauges_114 (by decide) ?_
                        refine v_iadd C dX2_readGauges_115 ?_
                        refine v_vI C 7 0 [.int ((i * 6) + 4)] 1 (c_X7_pairAt E hE _ _  ((i * 6) + 4)  (by clear C ih_43; (try simp (decide := true) only [wB_o, wB_i, wS_s, wS_t, wS_a, ne_eq, Nat.reduceEqDiff, not_false_eq_true]); assumption)) m_X7_pairAt x_1003 x_1004 x_1005 p_X7_pairAt rfl ⟨Nat.le_of_ble_eq_true rfl, Nat.le_of_ble_eq_true rfl⟩ (C_m C (u_7 0 (by decide))) k_7 rfl (Nat.le_of_ble_eq_true rfl) dX2_readGauges_116 (fun r3 u3 v3 hp3 => ?_)
                        obtain ⟨hr3, hu3⟩ := hp3
                        subst hr3
                        cases hu3
                        refine v_i (y := (if 0 ≤ ((i * 6) + 4) ∧ ((i * 6) + 4) < (w 661 0 0) then (w 37 0) (((i * 6) + 4)).toNatClampNeg else (-1)) * 256 + (if 0 ≤ ((i * 6) + 4) + 1 ∧ ((i * 6) + 4) + 1 < (w 661 0 0) then (w 37 0) (((i * 6) + 4) + 1).toNatClampNeg else (-1))) (by simp (decide := true) only [wB_o, wB_i, wS_s, wS_t, wS_a, ne_eq, Nat.reduceEqDiff, not_false_eq_true]) ?_
                        have hL119 : ∀ (bv : Int32), (bv = pairF (w 37 0) (6 * i.toNatClampNeg + 4)) → V K E A 6 (QI K E A (P_X2_readGauges w z)) 119 [(5, .int tk), (4, .int (i * 6)), (3, .int i), (2, .int n), (0, .ref (E.ad 2 0)), (1, .ref (E.ad 7 0))] [.int bv, .int i, .ref (E.ad 23 0)] (wS (wS (wB w SC7 U) 21 0 (upd (U 21 0) i.toNatClampNeg tk)) 22 0 (upd (U 22 0) i.toNatClampNeg fv)) z := by
                          intro bv hinv
                          have eb := hinv
                          refine v_iast C 23 0 (C_m C (u_23 0 (by decide))) ⟨by decide, rfl, rfl⟩ (by exact v_in (N := 8) (by decide) (by clear g3 gr; grind) (by clear g3 gr; grind)) dX2_readGauges_119 ?_
                          refine v_aload_n C 4 dX2_readGauges_120 rfl ?_
                          refine v_aload_n C 4 dX2_readGauges_121 rfl ?_
                          refine v_gI C 2 0 8 268 (U 268 0 0) (C_m C (u_2 0 (by decide))) k_2 (by decide) rfl rfl x_418 (by simp (decide := true) only [wB_o, wB_i, wS_s, wS_t, wS_a, ne_eq, Nat.reduceEqDiff, not_false_eq_true]) dX2_readGauges_122 ?_
                          refine v_iload C 0 dX2_readGauges_125 rfl ?_
                          refine v_mmax C x_1008 x_592 x_85 x_593 ⟨by decide, Nat.le_of_ble_eq_true rfl⟩ dX2_readGauges_127 ?_
                          refine v_pI C 2 0 8 268 (C_m C (u_2 0 (by decide))) k_2 ty_2 (by decide) rfl ⟨rfl, rfl⟩ x_418 rfl rfl dX2_readGauges_130 ?_
                          refine v_iinc (v := i + 1) (lv2 := [(3, .int (i + 1)), (5, .int tk), (4, .int (i * 6)), (2, .int n), (0, .ref (E.ad 2 0)), (1, .ref (E.ad 7 0))]) C 2 dX2_readGauges_133 rfl rfl (by decide) rfl ?_
                          refine v_goto C 43 dX2_readGauges_136 (by decide) ?_
                          refine v_w (w2 := (wS (wS (wS (wS (wB w SC7 U) 21 0 (upd (U 21 0) i.toNatClampNeg tk)) 22 0 (upd (U 22 0) i.toNatClampNeg fv)) 23 0 (upd (U 23 0) i.toNatClampNeg bv)) 268 0 (fun _ => (if (U 268 0 0) < tk then tk else (U 268 0 0))))) (by simp (decide := true) only [wB_o, wB_i, wS_s, wS_t, wS_a, ne_eq, Nat.reduceEqDiff, not_false_eq_true, wS_wS, wS_p, wS_pp, Nat.reduceLT, id_eq]) ?_
                          refine v_w (kp_e (S := SC7) (w := w) (kp_S (by decide) (kp_S (by decide) (kp_S (by decide) (kp_S (by decide) (kp_B (by decide) kp_r)))))) ?_
                          refine v_l [0, 3, 4, 5] rfl ?_
                          exact ih_43 (i + 1) _ (by clear C ih_43; exact Nat.lt_of_lt_of_le (m_up (by clear g3 gr; grind) (by clear g3 gr; grind)) (Nat.le_of_lt_succ hm_)) (by clear C ih_43; simp (decide := true) only [wB_o, wB_i, wS_s, wS_t, wS_a, ne_eq, Nat.reduceEqDiff, not_false_eq_true]; refine ⟨by clear g3 gr; grind, by clear g3 gr; grind, ⟨?_, ?_⟩, ?_⟩; (rw [cl_succ g1 (by clear g3 gr; grind)]; simp only [gMx]; rw [← gm, ← et]); (intro k hk; rw [cl_succ g1 (by clear g3 gr; grind)] at hk; by_cases q : k = i.toNatClampNeg; (rw [q, upd_s, upd_s, upd_s]; exact ⟨et, ef, eb⟩); (rw [upd_n _ _ q, upd_n _ _ q, upd_n _ _ q]; exact gr k (by omega))); (rw [← g3, m_dnn g1 (by clear g3 gr; grind)]; simp only [gOk]; rw [if_neg (by rw [← et]; clear g3 gr; grind), cl_succ g1 (by clear g3 gr; grind)]))
                        refine v_w (w2 := (wS (wS (wB w SC7 U) 21 0 (upd (U 21 0) i.toNatClampNeg tk)) 22 0 (upd (U 22 0) i.toNatClampNeg fv))) (by simp (decide := true) only [wB_o, wB_i, wS_s, wS_t, wS_a, ne_eq, Nat.reduceEqDiff, not_false_eq_true, wS_wS, wS_p, wS_pp, Nat.reduceLT, id_eq]) ?_
                        exact hL119 ((if 0 ≤ ((i * 6) + 4) ∧ ((i * 6) + 4) < (w 661 0 0) then (w 37 0) (((i * 6) + 4)).toNatClampNeg else (-1)) * 256 + (if 0 ≤ ((i * 6) + 4) + 1 ∧ ((i * 6) + 4) + 1 < (w 661 0 0) then (w 37 0) (((i * 6) + 4) + 1).toNatClampNeg else (-1))) (by clear C ih_43 hL119; rw [show 6 * i.toNatClampNeg + 4 = (i * 6 + 4).toNatClampNeg from (cl_six (c := 4) g1 (by clear g3 gr; grind) (by decide) (by decide)).symm]; exact pair_at (by clear g3 gr; grind) (by clear g3 gr; grind) (by clear g3 gr; grind))
                      refine v_w (w2 := (wS (wB w SC7 U) 21 0 (upd (U 21 0) i.toNatClampNeg tk))) (by simp (decide := true) only [wB_o, wB_i, wS_s, wS_t, wS_a, ne_eq, Nat.reduceEqDiff, not_false_eq_true, wS_wS, wS_p, wS_pp, Nat.reduceLT, id_eq]) ?_
                      exact hL105 ((if 0 ≤ ((i * 6) + 2) ∧ ((i * 6) + 2) < (w 661 0 0) then (w 37 0) (((i * 6) + 2)).toNatClampNeg else (-1)) * 256 + (if 0 ≤ ((i * 6) + 2) + 1 ∧ ((i * 6) + 2) + 1 < (w 661 0 0) then (w 37 0) (((i * 6) + 2) + 1).toNatClampNeg else (-1))) (by clear C ih_43 hL105; rw [show 6 * i.toNatClampNeg + 2 = (i * 6 + 2).toNatClampNeg from (cl_six (c := 2) g1 (by clear g3 gr; grind) (by decide) (by decide)).symm]; exact pair_at (by clear g3 gr; grind) (by clear g3 gr; grind) (by clear g3 gr; grind))
                    · refine v_iconst (v := 0) C dX2_readGauges_82 (by decide) ?_
                      exact v_zret C dX2_readGauges_83 (by decide) ⟨_, (by clear C ih_43; rw [if_pos (by clear g3 gr; grind), ← en, ← g3, m_dnn g1 (by clear g3 gr; grind)]; simp only [gOk]; rw [if_pos (by rw [← et]; clear g3 gr; grind)]), (congr (congrArg Prod.mk (kp_e (kp_B (by decide) kp_r))) rfl), (by exact fun q => absurd rfl q)⟩
                exact hL66 ((if 0 ≤ (i * 6) ∧ (i * 6) < (w 661 0 0) then (w 37 0) ((i * 6)).toNatClampNeg else (-1)) * 256 + (if 0 ≤ (i * 6) + 1 ∧ (i * 6) + 1 < (w 661 0 0) then (w 37 0) ((i * 6) + 1).toNatClampNeg else (-1))) (by clear C ih_43 hL66; rw [← cl_six0 g1 (by clear g3 gr; grind)]; exact pair_at (by clear g3 gr; grind) (by clear g3 gr; grind) (by clear g3 gr; grind))
          refine v_w (kp_e (S := SC7) (w := w) (kp_S (by decide) (kp_S (by decide) kp_r))) ?_
          exact hL43 _ 0 _ (Nat.lt_succ_self _) (by clear C hL43; refine ⟨by decide, by grind, ⟨by simp (decide := true) only [wB_o, wB_i, wS_s, wS_t, wS_a, ne_eq, Nat.reduceEqDiff, not_false_eq_true]; rfl, fun k hk => absurd hk (Nat.not_lt_zero _)⟩, by rw [show n - 0 = n by grind]; rfl⟩)
        · refine v_iconst (v := 0) C dX2_readGauges_39 (by decide) ?_
          exact v_zret C dX2_readGauges_40 (by decide) ⟨_, (by clear C; rw [if_neg (by grind)]), (congr (congrArg Prod.mk (kp_e (kp_S (by decide) (kp_S (by decide) kp_r)))) rfl), (by exact fun q => absurd rfl q)⟩
  exact hL8 ((w 661 0 0) / 6) (by clear C hL8; rfl)
