abbrev P_X10_nextOrder (w : Wi) (z : Wj) : Int32 → WW → Prop := fun r_ u_ => r_ = ((nxt (w 38 0) ((w 500 0 0)).toNatClampNeg).2) ∧ u_ = ((wS w 38 0 ((nxt (w 38 0) ((w 500 0 0)).toNatClampNeg).1)), z)
set_option maxHeartbeats 4000000 in
set_option maxRecDepth 100000 in
theorem c_X10_nextOrder (E : En) (hE : q_ok E) (w : Wi) (z : Wj) (h1 : 1 ≤ (w 500 0 0)) (h2 : (w 500 0 0) ≤ 6) : CtI M_X10_nextOrder E [.ref (E.ad 10 0)] w z (P_X10_nextOrder w z) := by
  refine ctI_of (lv := [(0, .ref (E.ad 10 0))]) hE m_X10_nextOrder (Nat.le_of_ble_eq_true rfl) rfl ?_
  intro K A C0
  have C : Cx K E A cX10_nextOrder 5 RX10 (some .boolean) { frames := 1, cells := 0, slots := 0, locals := 23 } := C0
  clear C0
  refine v_aload_n C 0 dX10_nextOrder_0 rfl ?_
  refine v_gR C 10 0 0 5 0 (C_m C (u_10 0 (by decide))) k_10 (by decide) x_357 (fun _ _ _ => rfl) dX10_nextOrder_1 ?_
  refine v_gI C 5 0 0 500 (w 500 0 0) (C_m C (u_5 0 (by decide))) k_5 (by decide) rfl rfl x_173 rfl dX10_nextOrder_4 ?_
  refine v_bipush (v := 6) C dX10_nextOrder_7 (by decide) ?_
  refine v_mmin C x_955 x_577 x_85 x_578 ⟨by decide, Nat.le_of_ble_eq_true rfl⟩ dX10_nextOrder_9 ?_
  refine v_istore_n (lv2 := [(1, .int (if 6 < (w 500 0 0) then 6 else (w 500 0 0))), (0, .ref (E.ad 10 0))]) C dX10_nextOrder_12 rfl (by decide) rfl ?_
  have hL13 : ∀ (sz : Int32), (sz = (w 500 0 0)) → V K E A 5 (QI K E A (P_X10_nextOrder w z)) 13 [(1, .int sz), (0, .ref (E.ad 10 0))] [] w z := by
    intro sz hinv
    have es := hinv
    rw [← es] at h1 h2
    have e1 := cl_pred h1
    refine v_iload_n C 0 dX10_nextOrder_13 rfl ?_
    refine v_iconst (v := 2) C dX10_nextOrder_14 (by decide) ?_
    refine v_isub C dX10_nextOrder_15 ?_
    refine v_istore_n (lv2 := [(2, .int (sz - 2)), (1, .int sz), (0, .ref (E.ad 10 0))]) C dX10_nextOrder_16 rfl (by decide) rfl ?_
    have hL17 : ∀ (n_ : Nat) (lo : Int32), (lo + 1).toNatClampNeg < n_ → ((-1) ≤ lo ∧ lo ≤ sz - 2 ∧ loR (w 38 0) (lo + 1).toNatClampNeg = loR (w 38 0) (sz - 1).toNatClampNeg) → V K E A 5 (QI K E A (P_X10_nextOrder w z)) 17 [(2, .int lo), (1, .int sz), (0, .ref (E.ad 10 0))] [] w z := by
      intro n_
      induction n_ with
      | zero => intro lo hm_; exact absurd hm_ (Nat.not_lt_zero _)
      | succ n_ ih_17 =>
        intro lo hm_ hinv
        obtain ⟨g1, g2, g3⟩ := hinv
        have hL49 : ((-1) ≤ lo ∧ lo ≤ sz - 2 ∧ loR (w 38 0) (sz - 1).toNatClampNeg = (lo + 1).toNatClampNeg) → V K E A 5 (QI K E A (P_X10_nextOrder w z)) 49 [(2, .int lo), (1, .int sz), (0, .ref (E.ad 10 0))] [] w z := by
          intro  hinv
          obtain ⟨k1, k2, k3⟩ := hinv
          rw [e1] at k3
          refine v_iload_n C 0 dX10_nextOrder_49 rfl ?_
          refine v_if_ge C 55 dX10_nextOrder_50 (by decide) (fun c_50 => ?_) (fun c_50 => ?_)
          · refine v_iload_n C 1 dX10_nextOrder_55 rfl ?_
            refine v_iconst (v := 1) C dX10_nextOrder_56 (by decide) ?_
            refine v_isub C dX10_nextOrder_57 ?_
            refine v_istore_n (lv2 := [(3, .int (sz - 1)), (2, .int lo), (1, .int sz), (0, .ref (E.ad 10 0))]) C dX10_nextOrder_58 rfl (by decide) rfl ?_
            have hL59 : ∀ (n_ : Nat) (hi : Int32), (hi + 1).toNatClampNeg < n_ → (lo ≤ hi ∧ hi ≤ sz - 1 ∧ hiR (w 38 0) lo.toNatClampNeg hi.toNatClampNeg = hiR (w 38 0) lo.toNatClampNeg (sz - 1).toNatClampNeg) → V K E A 5 (QI K E A (P_X10_nextOrder w z)) 59 [(3, .int hi), (2, .int lo), (1, .int sz), (0, .ref (E.ad 10 0))] [] w z := by
              intro n_
              induction n_ with
              | zero => intro hi hm_; exact absurd hm_ (Nat.not_lt_zero _)
              | succ n_ ih_59 =>
                intro hi hm_ hinv
                obtain ⟨m1, m2, m3⟩ := hinv
                have hL91 : (lo ≤ hi ∧ hi ≤ sz - 1 ∧ hiR (w 38 0) lo.toNatClampNeg (sz - 1).toNatClampNeg = hi.toNatClampNeg) → V K E A 5 (QI K E A (P_X10_nextOrder w z)) 91 [(3, .int hi), (2, .int lo), (1, .int sz), (0, .ref (E.ad 10 0))] [] w z := by
                  intro  hinv
                  obtain ⟨n1, n2, n3⟩ := hinv
                  rw [e1] at n3
                  have n4 : loR (w 38 0) (sz.toNatClampNeg - 1) = lo.toNatClampNeg + 1 := by rw [k3, cl_succ (by grind) (by grind)]
                  refine v_aload_n C 3 dX10_nextOrder_91 rfl ?_
                  refine v_iload_n C 1 dX10_nextOrder_92 rfl ?_
                  refine v_iload_n C 0 dX10_nextOrder_93 rfl ?_
                  refine v_vV C 10 0 [.int lo, .int hi] 2 (c_X10_swap E hE _ _  lo hi  ) m_X10_swap x_956 x_958 x_20 p_X10_swap rfl ⟨Nat.le_of_ble_eq_true rfl, Nat.le_of_ble_eq_true rfl⟩ (C_m C (u_10 0 (by decide))) k_10 rfl (Nat.le_of_ble_eq_true rfl) dX10_nextOrder_94 (fun u1 v1 hp1 => ?_)
                  have hu1 := hp1
                  cases hu1
                  have hL97 : ∀ (O0 : Row), (O0 = swp (w 38 0) lo.toNatClampNeg hi.toNatClampNeg) → V K E A 5 (QI K E A (P_X10_nextOrder w z)) 97 [(3, .int hi), (2, .int lo), (1, .int sz), (0, .ref (E.ad 10 0))] [] (wS w 38 0 O0) z := by
                    intro O0 hinv
                    have eO := hinv
                    refine v_iconst (v := 1) C dX10_nextOrder_97 (by decide) ?_
                    refine v_istore (lv2 := [(4, .int 1), (3, .int hi), (2, .int lo), (1, .int sz), (0, .ref (E.ad 10 0))]) C dX10_nextOrder_98 (by decide) rfl ?_
                    have hL100 : ∀ (n_ : Nat) (j : Int32) (O : Row), (7 - j).toNatClampNeg < n_ → (1 ≤ j ∧ j ≤ 7 ∧ rvR lo.toNatClampNeg sz.toNatClampNeg (sz + 1 - j).toNatClampNeg j.toNatClampNeg O = rvR lo.toNatClampNeg sz.toNatClampNeg sz.toNatClampNeg 1 O0) → V K E A 5 (QI K E A (P_X10_nextOrder w z)) 100 [(4, .int j), (3, .int hi), (2, .int lo), (1, .int sz), (0, .ref (E.ad 10 0))] [] (wS w 38 0 O) z := by
                      intro n_
                      induction n_ with
                      | zero => intro j O hm_; exact absurd hm_ (Nat.not_lt_zero _)
                      | succ n_ ih_100 =>
                        intro j O hm_ hinv
                        obtain ⟨q1, q2, q3⟩ := hinv
                        refine v_iload_n C 2 dX10_nextOrder_100 rfl ?_
                        refine v_iload C 0 dX10_nextOrder_101 rfl ?_
                        refine v_iadd C dX10_nextOrder_103 ?_
                        refine v_iload_n C 3 dX10_nextOrder_104 rfl ?_
                        refine v_iload C 0 dX10_nextOrder_105 rfl ?_
                        refine v_isub C dX10_nextOrder_107 ?_
                        refine v_ic_ge C 129 dX10_nextOrder_108 (by decide) (fun c_108 => ?_) (fun c_108 => ?_)
                        · refine v_iconst (v := 1) C dX10_nextOrder_129 (by decide) ?_
                          have hO : rvR lo.toNatClampNeg sz.toNatClampNeg sz.toNatClampNeg 1 O0 = O := by rw [← q3]; exact rvR_stop (nx_end (by grind) (by grind) (by grind) (by grind) (by grind))
                          have hN : nxt (w 38 0) sz.toNatClampNeg = (O, 1) := by simp only [nxt, n4]; rw [if_neg (by omega), Nat.add_sub_cancel, n3, ← eO, hO]
                          exact v_zret C dX10_nextOrder_130 (by decide) ⟨(by clear C ih_17 ih_59 ih_100; rw [← es, hN]), (congr (congrArg Prod.mk (wS_eq rfl (by clear C ih_17 ih_59 ih_100; rw [← es, hN]))) rfl)⟩
                        · refine v_aload_n C 4 dX10_nextOrder_111 rfl ?_
                          refine v_iload_n C 2 dX10_nextOrder_112 rfl ?_
                          refine v_iload C 0 dX10_nextOrder_113 rfl ?_
                          refine v_iadd C dX10_nextOrder_115 ?_
                          refine v_iload_n C 3 dX10_nextOrder_116 rfl ?_
                          refine v_iload C 0 dX10_nextOrder_117 rfl ?_
                          refine v_isub C dX10_nextOrder_119 ?_
                          refine v_vV C 10 0 [.int (lo + j), .int (sz - j)] 2 (c_X10_swap E hE _ _  (lo + j) (sz - j)  ) m_X10_swap x_956 x_958 x_20 p_X10_swap rfl ⟨Nat.le_of_ble_eq_true rfl, Nat.le_of_ble_eq_true rfl⟩ (C_m C (u_10 0 (by decide))) k_10 rfl (Nat.le_of_ble_eq_true rfl) dX10_nextOrder_120 (fun u2 v2 hp2 => ?_)
                          have hu2 := hp2
                          cases hu2
                          refine v_w (w2 := (wS w 38 0 (if (0 ≤ (lo + j) ∧ (lo + j) < 6) ∧ 0 ≤ (sz - j) ∧ (sz - j) < 6 then upd (upd O ((lo + j)).toNatClampNeg (O ((sz - j)).toNatClampNeg)) ((sz - j)).toNatClampNeg (O ((lo + j)).toNatClampNeg) else O))) (by simp only [wS_s, wS_t, wS_a, ne_eq, Nat.reduceEqDiff, not_false_eq_true, wS_wS, wS_p, wS_pp, Nat.reduceLT, id_eq]) ?_
                          refine v_iinc (v := j + 1) (lv2 := [(4, .int (j + 1)), (3, .int hi), (2, .int lo), (1, .int sz), (0, .ref (E.ad 10 0))]) C 0 dX10_nextOrder_123 rfl rfl (by decide) rfl ?_
                          refine v_goto C 100 dX10_nextOrder_126 (by decide) ?_
                          exact ih_100 (j + 1) (if (0 ≤ (lo + j) ∧ (lo + j) < 6) ∧ 0 ≤ (sz - j) ∧ (sz - j) < 6 then upd (upd O ((lo + j)).toNatClampNeg (O ((sz - j)).toNatClampNeg)) ((sz - j)).toNatClampNeg (O ((lo + j)).toNatClampNeg) else O) (by clear C ih_17 ih_59 ih_100; exact Nat.lt_of_lt_of_le (m_up (by grind) (by grind)) (Nat.le_of_lt_succ hm_)) (by clear C ih_17 ih_59 ih_100; have ha := cl_add (x := lo) (y := j) (by grind) (by grind) (by grind) (by grind); have hs := cl_sub (x := sz) (y := j) (by grind) (by grind); refine ⟨by grind, by grind, ?_⟩; rw [← q3, m_dnn (N := sz + 1) (i := j) (by grind) (by grind), if_pos (by grind), cl_succ (by grind) (by grind), rvR_go (by rw [← ha, ← hs]; exact (cl_lt (by grind) (by grind)).mpr (by grind)), ha, hs]; rfl)
                    exact hL100 _ 1 O0 (Nat.lt_succ_self _) (by clear C ih_17 ih_59 hL100; exact ⟨by decide, by decide, by rw [show sz + 1 - 1 = sz by grind]; rfl⟩)
                  exact hL97 (if (0 ≤ lo ∧ lo < 6) ∧ 0 ≤ hi ∧ hi < 6 then upd (upd (w 38 0) (lo).toNatClampNeg ((w 38 0) (hi).toNatClampNeg)) (hi).toNatClampNeg ((w 38 0) (lo).toNatClampNeg) else (w 38 0)) (by clear C ih_17 ih_59 hL97; rw [if_pos (by grind)]; rfl)
                refine v_iload_n C 0 dX10_nextOrder_59 rfl ?_
                refine v_iload_n C 1 dX10_nextOrder_60 rfl ?_
                refine v_ic_le C 91 dX10_nextOrder_61 (by decide) (fun c_61 => ?_) (fun c_61 => ?_)
                · exact hL91  (by clear C ih_17 ih_59 hL91; exact ⟨m1, m2, by rw [← m3]; exact hi_stop (by grind) m1 (by grind)⟩)
                · refine v_iload_n C 0 dX10_nextOrder_64 rfl ?_
                  refine v_bipush (v := 6) C dX10_nextOrder_65 (by decide) ?_
                  refine v_ic_ge C 91 dX10_nextOrder_67 (by decide) (fun c_67 => absurd c_67 (by clear C ih_17 ih_59 hL91; grind)) (fun c_67 => ?_)
                  refine v_aload_n C 3 dX10_nextOrder_70 rfl ?_
                  refine v_gR C 10 0 7 38 0 (C_m C (u_10 0 (by decide))) k_10 (by decide) x_364 (fun _ _ _ => rfl) dX10_nextOrder_71 ?_
                  refine v_iload_n C 0 dX10_nextOrder_74 rfl ?_
                  refine v_iald C 38 0 (C_m C (u_38 0 (by decide))) ⟨by decide, rfl, rfl⟩ (by exact v_in (N := 6) (by decide) (by grind) (by grind)) dX10_nextOrder_75 ?_
                  refine v_aload_n C 3 dX10_nextOrder_76 rfl ?_
                  refine v_gR C 10 0 7 38 0 (C_m C (u_10 0 (by decide))) k_10 (by decide) x_364 (fun _ _ _ => rfl) dX10_nextOrder_77 ?_
                  refine v_iload_n C 1 dX10_nextOrder_80 rfl ?_
                  refine v_iald C 38 0 (C_m C (u_38 0 (by decide))) ⟨by decide, rfl, rfl⟩ (by exact v_in (N := 6) (by decide) (by grind) (by grind)) dX10_nextOrder_81 ?_
                  refine v_ic_ge C 91 dX10_nextOrder_82 (by decide) (fun c_82 => ?_) (fun c_82 => ?_)
                  · exact hL91  (by clear C ih_17 ih_59 hL91; exact ⟨m1, m2, by rw [← m3]; exact hi_stop (by grind) m1 (by grind)⟩)
                  · refine v_iinc (v := hi + (-1)) (lv2 := [(3, .int (hi + (-1))), (2, .int lo), (1, .int sz), (0, .ref (E.ad 10 0))]) C 0 dX10_nextOrder_85 rfl rfl (by decide) rfl ?_
                    refine v_goto C 59 dX10_nextOrder_88 (by decide) ?_
                    exact ih_59 (hi + (-1)) (by clear C ih_17 ih_59 hL91; rcases m_dn (i := hi) (by grind) with q | q; exact Nat.lt_of_lt_of_le q (Nat.le_of_lt_succ hm_); exact absurd q (by grind)) (by clear C ih_17 ih_59 hL91; have q9 := hi_step (f := (w 38 0)) (lo := lo) (i := hi) (by grind) (by grind) (by grind) (Int32.not_le.mp c_82); exact ⟨by grind, by grind, q9.symm.trans m3⟩)
            exact hL59 _ (sz - 1) (Nat.lt_succ_self _) (by clear C ih_17 hL59; exact ⟨by grind, by grind, rfl⟩)
          · refine v_iconst (v := 0) C dX10_nextOrder_53 (by decide) ?_
            refine v_w (wS_id _ 38 0).symm ?_
            refine v_w (w2 := (wS w 38 0 (w 38 0))) (by simp only [wS_s, wS_t, wS_a, ne_eq, Nat.reduceEqDiff, not_false_eq_true, wS_wS, wS_p, wS_pp, Nat.reduceLT, id_eq]) ?_
            have hN : nxt (w 38 0) sz.toNatClampNeg = ((w 38 0), 0) := by simp only [nxt]; rw [k3, if_pos (by rw [show lo + 1 = 0 by grind]; rfl)]
            exact v_zret C dX10_nextOrder_54 (by decide) ⟨(by clear C ih_17; rw [← es, hN]), (congr (congrArg Prod.mk (wS_eq rfl (by clear C ih_17; rw [← es, hN]))) rfl)⟩
        refine v_iload_n C 0 dX10_nextOrder_17 rfl ?_
        refine v_if_lt C 49 dX10_nextOrder_18 (by decide) (fun c_18 => ?_) (fun c_18 => ?_)
        · exact hL49  (by clear C ih_17 hL49; refine ⟨g1, g2, ?_⟩; rw [← g3]; by_cases hl : lo < 0; (rw [show lo + 1 = 0 by grind]; rfl); exact lo_stop (by grind) (by grind) (by grind))
        · refine v_iload_n C 0 dX10_nextOrder_21 rfl ?_
          refine v_iconst (v := 5) C dX10_nextOrder_22 (by decide) ?_
          refine v_ic_ge C 49 dX10_nextOrder_23 (by decide) (fun c_23 => absurd c_23 (by clear C ih_17 hL49; grind)) (fun c_23 => ?_)
          refine v_aload_n C 2 dX10_nextOrder_26 rfl ?_
          refine v_gR C 10 0 7 38 0 (C_m C (u_10 0 (by decide))) k_10 (by decide) x_364 (fun _ _ _ => rfl) dX10_nextOrder_27 ?_
          refine v_iload_n C 0 dX10_nextOrder_30 rfl ?_
          refine v_iald C 38 0 (C_m C (u_38 0 (by decide))) ⟨by decide, rfl, rfl⟩ (by exact v_in (N := 6) (by decide) (by grind) (by grind)) dX10_nextOrder_31 ?_
          refine v_aload_n C 2 dX10_nextOrder_32 rfl ?_
          refine v_gR C 10 0 7 38 0 (C_m C (u_10 0 (by decide))) k_10 (by decide) x_364 (fun _ _ _ => rfl) dX10_nextOrder_33 ?_
          refine v_iload_n C 0 dX10_nextOrder_36 rfl ?_
          refine v_iconst (v := 1) C dX10_nextOrder_37 (by decide) ?_
          refine v_iadd C dX10_nextOrder_38 ?_
          refine v_iald C 38 0 (C_m C (u_38 0 (by decide))) ⟨by decide, rfl, rfl⟩ (by exact v_in (N := 6) (by decide) (by grind) (by grind)) dX10_nextOrder_39 ?_
          refine v_ic_le C 49 dX10_nextOrder_40 (by decide) (fun c_40 => ?_) (fun c_40 => ?_)
          · exact hL49  (by clear C ih_17 hL49; refine ⟨g1, g2, ?_⟩; rw [← g3]; by_cases hl : lo < 0; (rw [show lo + 1 = 0 by grind]; rfl); exact lo_stop (by grind) (by grind) (by grind))
          · refine v_iinc (v := lo + (-1)) (lv2 := [(2, .int (lo + (-1))), (1, .int sz), (0, .ref (E.ad 10 0))]) C 0 dX10_nextOrder_43 rfl rfl (by decide) rfl ?_
            refine v_goto C 17 dX10_nextOrder_46 (by decide) ?_
            exact ih_17 (lo + (-1)) (by clear C ih_17 hL49; rcases m_dn (i := lo) (by grind) with q | q; exact Nat.lt_of_lt_of_le q (Nat.le_of_lt_succ hm_); exact absurd q (by grind)) (by clear C ih_17 hL49; exact ⟨by grind, by grind, by rw [← g3, show lo + (-1) + 1 = lo by grind, lo_step (by grind) (by grind) (by grind)]⟩)
    exact hL17 _ (sz - 2) (Nat.lt_succ_self _) (by clear C hL17; exact ⟨by grind, by grind, by rw [show sz - 2 + 1 = sz - 1 by grind]⟩)
  exact hL13 (if 6 < (w 500 0 0) then 6 else (w 500 0 0)) (by clear C hL13; grind)
