abbrev P_X12_goOn (w : Wi) (z : Wj) : Int32 → WW → Prop := fun r_ u_ => r_ = ((nxt (w 57 0) ((w 1074 0 0)).toNatClampNeg).2) ∧ u_ = ((wS w 57 0 ((nxt (w 57 0) ((w 1074 0 0)).toNatClampNeg).1)), z)
set_option maxHeartbeats 4000000 in
set_option maxRecDepth 100000 in
theorem c_X12_goOn (E : En) (hM : q_okM E) (w : Wi) (z : Wj) (h1 : 1 ≤ (w 1074 0 0)) (h2 : (w 1074 0 0) ≤ 6) : CtI M_X12_goOn E [.ref (E.ad 12 0)] w z (P_X12_goOn w z) := by
  have hE := hM.1
  refine ctI_of (lv := [(0, .ref (E.ad 12 0))]) hE m_X12_goOn (Nat.le_of_ble_eq_true rfl) rfl ?_
  intro K A C0
  have C : Cx K E A cX12_goOn 5 RX12 (some .boolean) { frames := 1, cells := 0, slots := 0, locals := 23 } := C0
  clear C0
  have e1 := cl_pred h1
  refine v_aload_n C 0 dX12_goOn_0 rfl ?_
  refine v_gI C 12 0 14 1074 (w 1074 0 0) (hM.2 _ (u_12 0 (by decide))) k_12 (by decide) rfl rfl x_1256 rfl dX12_goOn_1 ?_
  refine v_iconst (v := 2) C dX12_goOn_4 (by decide) ?_
  refine v_isub C dX12_goOn_5 ?_
  refine v_istore_n (lv2 := [(1, .int ((w 1074 0 0) - 2)), (0, .ref (E.ad 12 0))]) C dX12_goOn_6 rfl (by decide) rfl ?_
  have hL7 : ∀ (n_ : Nat) (lo : Int32), (lo + 1).toNatClampNeg < n_ → ((-1) ≤ lo ∧ lo ≤ (w 1074 0 0) - 2 ∧ loR (w 57 0) (lo + 1).toNatClampNeg = loR (w 57 0) ((w 1074 0 0) - 1).toNatClampNeg) → V K E A 5 (QI K E A (P_X12_goOn w z)) 7 [(1, .int lo), (0, .ref (E.ad 12 0))] [] w z := by
    intro n_
    induction n_ with
    | zero => intro lo hm_; exact absurd hm_ (Nat.not_lt_zero _)
    | succ n_ ih_7 =>
      intro lo hm_ hinv
      obtain ⟨g1, g2, g3⟩ := hinv
      have hL34 : ((-1) ≤ lo ∧ lo ≤ (w 1074 0 0) - 2 ∧ (0 ≤ lo → (w 57 0) lo.toNatClampNeg ≤ (w 57 0) (lo + 1).toNatClampNeg) ∧ loR (w 57 0) ((w 1074 0 0) - 1).toNatClampNeg = (lo + 1).toNatClampNeg) → V K E A 5 (QI K E A (P_X12_goOn w z)) 34 [(1, .int lo), (0, .ref (E.ad 12 0))] [] w z := by
        intro  hinv
        obtain ⟨k1, k2, k4, k3⟩ := hinv
        rw [e1] at k3
        refine v_iload_n C 0 dX12_goOn_34 rfl ?_
        refine v_if_ge C 40 dX12_goOn_35 (by decide) (fun c_35 => ?_) (fun c_35 => ?_)
        · refine v_aload_n C 1 dX12_goOn_40 rfl ?_
          refine v_gI C 12 0 14 1074 (w 1074 0 0) (hM.2 _ (u_12 0 (by decide))) k_12 (by decide) rfl rfl x_1256 rfl dX12_goOn_41 ?_
          refine v_iconst (v := 1) C dX12_goOn_44 (by decide) ?_
          refine v_isub C dX12_goOn_45 ?_
          refine v_istore_n (lv2 := [(2, .int ((w 1074 0 0) - 1)), (1, .int lo), (0, .ref (E.ad 12 0))]) C dX12_goOn_46 rfl (by decide) rfl ?_
          have hL47 : ∀ (n_ : Nat) (hi : Int32), (hi + 1).toNatClampNeg < n_ → (lo < hi ∧ hi ≤ (w 1074 0 0) - 1 ∧ 0 ≤ lo ∧ hiR (w 57 0) lo.toNatClampNeg hi.toNatClampNeg = hiR (w 57 0) lo.toNatClampNeg ((w 1074 0 0) - 1).toNatClampNeg) → V K E A 5 (QI K E A (P_X12_goOn w z)) 47 [(2, .int hi), (1, .int lo), (0, .ref (E.ad 12 0))] [] w z := by
            intro n_
            induction n_ with
            | zero => intro hi hm_; exact absurd hm_ (Nat.not_lt_zero _)
            | succ n_ ih_47 =>
              intro hi hm_ hinv
              obtain ⟨m1, m2, m4, m3⟩ := hinv
              have m5 := k4 m4
              have hL68 : (lo < hi ∧ hi ≤ (w 1074 0 0) - 1 ∧ 0 ≤ lo ∧ hiR (w 57 0) lo.toNatClampNeg ((w 1074 0 0) - 1).toNatClampNeg = hi.toNatClampNeg) → V K E A 5 (QI K E A (P_X12_goOn w z)) 68 [(2, .int hi), (1, .int lo), (0, .ref (E.ad 12 0))] [] w z := by
                intro  hinv
                obtain ⟨n1, n2, n5, n3⟩ := hinv
                rw [e1] at n3
                have n4 : loR (w 57 0) ((w 1074 0 0).toNatClampNeg - 1) = lo.toNatClampNeg + 1 := by rw [k3, cl_succ (by grind) (by grind)]
                refine v_aload_n C 2 dX12_goOn_68 rfl ?_
                refine v_iload_n C 1 dX12_goOn_69 rfl ?_
                refine v_iload_n C 0 dX12_goOn_70 rfl ?_
                refine v_vV C 12 0 [.int lo, .int hi] 2 (c_X12_exchange E hM _ _  lo hi  (by clear C ih_7 ih_47; grind) (by clear C ih_7 ih_47; grind) (by clear C ih_7 ih_47; grind) (by clear C ih_7 ih_47; grind)) m_X12_exchange x_1657 x_1659 x_62 p_X12_exchange rfl ⟨Nat.le_of_ble_eq_true rfl, Nat.le_of_ble_eq_true rfl⟩ (hM.2 _ (u_12 0 (by decide))) k_12 rfl (Nat.le_of_ble_eq_true rfl) dX12_goOn_71 (fun u1 v1 hp1 => ?_)
                have hu1 := hp1
                cases hu1
                have hL74 : ∀ (O0 : Row), (O0 = swp (w 57 0) lo.toNatClampNeg hi.toNatClampNeg) → V K E A 5 (QI K E A (P_X12_goOn w z)) 74 [(2, .int hi), (1, .int lo), (0, .ref (E.ad 12 0))] [] (wS w 57 0 O0) z := by
                  intro O0 hinv
                  have eO := hinv
                  refine v_iload_n C 1 dX12_goOn_74 rfl ?_
                  refine v_iconst (v := 1) C dX12_goOn_75 (by decide) ?_
                  refine v_iadd C dX12_goOn_76 ?_
                  refine v_istore_n (lv2 := [(3, .int (lo + 1)), (2, .int hi), (1, .int lo), (0, .ref (E.ad 12 0))]) C dX12_goOn_77 rfl (by decide) rfl ?_
                  refine v_aload_n C 3 dX12_goOn_78 rfl ?_
                  refine v_gI C 12 0 14 1074 (w 1074 0 0) (hM.2 _ (u_12 0 (by decide))) k_12 (by decide) rfl rfl x_1256 (by simp only [wS_s, wS_t, wS_a, ne_eq, Nat.reduceEqDiff, not_false_eq_true, L7_1]) dX12_goOn_79 ?_
                  refine v_iconst (v := 1) C dX12_goOn_82 (by decide) ?_
                  refine v_isub C dX12_goOn_83 ?_
                  refine v_istore (lv2 := [(4, .int ((w 1074 0 0) - 1)), (3, .int (lo + 1)), (2, .int hi), (1, .int lo), (0, .ref (E.ad 12 0))]) C dX12_goOn_84 (by decide) rfl ?_
                  have hL86 : ∀ (n_ : Nat) (a : Int32) (b : Int32) (O : Row), (17 - a).toNatClampNeg < n_ → (∃ j, 1 ≤ j ∧ j ≤ 7 ∧ a = lo + j ∧ b = (w 1074 0 0) - j ∧ rvR lo.toNatClampNeg (w 1074 0 0).toNatClampNeg ((w 1074 0 0) + 1 - j).toNatClampNeg j.toNatClampNeg O = rvR lo.toNatClampNeg (w 1074 0 0).toNatClampNeg (w 1074 0 0).toNatClampNeg 1 O0) → V K E A 5 (QI K E A (P_X12_goOn w z)) 86 [(4, .int b), (3, .int a), (2, .int hi), (1, .int lo), (0, .ref (E.ad 12 0))] [] (wS w 57 0 O) z := by
                    intro n_
                    induction n_ with
                    | zero => intro a b O hm_; exact absurd hm_ (Nat.not_lt_zero _)
                    | succ n_ ih_86 =>
                      intro a b O hm_ hinv
                      obtain ⟨j, q1, q2, ea, eb, q3⟩ := hinv
                      refine v_iload_n C 1 dX12_goOn_86 rfl ?_
                      refine v_iload C 0 dX12_goOn_87 rfl ?_
                      refine v_ic_ge C 108 dX12_goOn_89 (by decide) (fun c_89 => ?_) (fun c_89 => ?_)
                      · refine v_iconst (v := 1) C dX12_goOn_108 (by decide) ?_
                        have hO : rvR lo.toNatClampNeg (w 1074 0 0).toNatClampNeg (w 1074 0 0).toNatClampNeg 1 O0 = O := by rw [← q3]; exact rvR_stop (nx_end (by clear q3 eO n4 n3 k3; grind) (by clear q3 eO n4 n3 k3; grind) (by clear q3 eO n4 n3 k3; grind) (by clear q3 eO n4 n3 k3; grind) (by clear q3 eO n4 n3 k3; grind))
                        have hN : nxt (w 57 0) (w 1074 0 0).toNatClampNeg = (O, 1) := by simp only [nxt, n4]; rw [if_neg (by omega), Nat.add_sub_cancel, n3, ← eO, hO]
                        exact v_zret C dX12_goOn_109 (by decide) ⟨(by clear C ih_7 ih_47 ih_86; rw [hN]), (congr (congrArg Prod.mk (wS_eq rfl (by clear C ih_7 ih_47 ih_86; rw [hN]))) rfl)⟩
                      · refine v_aload_n C 4 dX12_goOn_92 rfl ?_
                        refine v_iload_n C 1 dX12_goOn_93 rfl ?_
                        refine v_iload C 0 dX12_goOn_94 rfl ?_
                        refine v_vV C 12 0 [.int a, .int b] 2 (c_X12_exchange E hM _ _  a b  (by clear C ih_7 ih_47 ih_86; (try simp only [wS_s, wS_t, wS_a, ne_eq, Nat.reduceEqDiff, not_false_eq_true, L7_1]); clear q3 eO n4 n3 k3; grind) (by clear C ih_7 ih_47 ih_86; (try simp only [wS_s, wS_t, wS_a, ne_eq, Nat.reduceEqDiff, not_false_eq_true, L7_1]); clear q3 eO n4 n3 k3; grind) (by clear C ih_7 ih_47 ih_86; (try simp only [wS_s, wS_t, wS_a, ne_eq, Nat.reduceEqDiff, not_false_eq_true, L7_1]); clear q3 eO n4 n3 k3; grind) (by clear C ih_7 ih_47 ih_86; (try simp only [wS_s, wS_t, wS_a, ne_eq, Nat.reduceEqDiff, not_false_eq_true, L7_1]); clear q3 eO n4 n3 k3; grind)) m_X12_exchange x_1657 x_1659 x_62 p_X12_exchange rfl ⟨Nat.le_of_ble_eq_true rfl, Nat.le_of_ble_eq_true rfl⟩ (hM.2 _ (u_12 0 (by decide))) k_12 rfl (Nat.le_of_ble_eq_true rfl) dX12_goOn_96 (fun u2 v2 hp2 => ?_)
                        have hu2 := hp2
                        cases hu2
                        refine v_w (w2 := (wS w 57 0 (swp O (a).toNatClampNeg (b).toNatClampNeg))) (by simp only [wS_s, wS_t, wS_a, ne_eq, Nat.reduceEqDiff, not_false_eq_true, wS_wS, wS_p, wS_pp, Nat.reduceLT, id_eq, L7_1]) ?_
                        refine v_iinc (v := a + 1) (lv2 := [(3, .int (a + 1)), (4, .int b), (2, .int hi), (1, .int lo), (0, .ref (E.ad 12 0))]) C 1 dX12_goOn_99 rfl rfl (by decide) rfl ?_
                        refine v_iinc (v := b + (-1)) (lv2 := [(4, .int (b + (-1))), (3, .int (a + 1)), (2, .int hi), (1, .int lo), (0, .ref (E.ad 12 0))]) C 1 dX12_goOn_102 rfl rfl (by decide) rfl ?_
                        refine v_goto C 86 dX12_goOn_105 (by decide) ?_
                        exact ih_86 (a + 1) (b + (-1)) (swp O (a).toNatClampNeg (b).toNatClampNeg) (by clear C ih_7 ih_47 ih_86; exact Nat.lt_of_lt_of_le (m_up (by clear q3 eO n4 n3 k3; grind) (by clear q3 eO n4 n3 k3; grind)) (Nat.le_of_lt_succ hm_)) (by clear C ih_7 ih_47 ih_86; have ha := cl_add (x := lo) (y := j) (by clear q3 eO n4 n3 k3; grind) (by clear q3 eO n4 n3 k3; grind) (by clear q3 eO n4 n3 k3; grind) (by clear q3 eO n4 n3 k3; grind); have hs := cl_sub (x := (w 1074 0 0)) (y := j) (by clear q3 eO n4 n3 k3; grind) (by clear q3 eO n4 n3 k3; grind); refine ⟨j + 1, by clear q3 eO n4 n3 k3; grind, by clear q3 eO n4 n3 k3; grind, by clear q3 eO n4 n3 k3; grind, by clear q3 eO n4 n3 k3; grind, ?_⟩; rw [← q3, m_dnn (N := (w 1074 0 0) + 1) (i := j) (by clear q3 eO n4 n3 k3; grind) (by clear q3 eO n4 n3 k3; grind), cl_succ (by clear q3 eO n4 n3 k3; grind) (by clear q3 eO n4 n3 k3; grind), rvR_go (by rw [← ha, ← hs]; exact (cl_lt (by clear q3 eO n4 n3 k3; grind) (by clear q3 eO n4 n3 k3; grind)).mpr (by clear q3 eO n4 n3 k3; grind)), ← ha, ← hs, ← ea, ← eb])
                  exact hL86 _ (lo + 1) ((w 1074 0 0) - 1) O0 (Nat.lt_succ_self _) (by clear C ih_7 ih_47 hL86; exact ⟨1, by decide, by decide, rfl, rfl, by rw [show (w 1074 0 0) + 1 - 1 = (w 1074 0 0) by grind]; rfl⟩)
                exact hL74 (swp (w 57 0) (lo).toNatClampNeg (hi).toNatClampNeg) (by clear C ih_7 ih_47 hL74; rfl)
              refine v_aload_n C 2 dX12_goOn_47 rfl ?_
              refine v_gR C 12 0 50 57 0 (hM.2 _ (u_12 0 (by decide))) k_12 (by decide) x_1292 (fun _ _ _ => rfl) dX12_goOn_48 ?_
              refine v_iload_n C 0 dX12_goOn_51 rfl ?_
              refine v_iald C 57 0 (hM.2 _ (u_57 0 (by decide))) ⟨by decide, rfl, rfl⟩ (by exact v_in (N := 16) (by decide) (by grind) (by grind)) dX12_goOn_52 ?_
              refine v_aload_n C 2 dX12_goOn_53 rfl ?_
              refine v_gR C 12 0 50 57 0 (hM.2 _ (u_12 0 (by decide))) k_12 (by decide) x_1292 (fun _ _ _ => rfl) dX12_goOn_54 ?_
              refine v_iload_n C 1 dX12_goOn_57 rfl ?_
              refine v_iald C 57 0 (hM.2 _ (u_57 0 (by decide))) ⟨by decide, rfl, rfl⟩ (by exact v_in (N := 16) (by decide) (by grind) (by grind)) dX12_goOn_58 ?_
              refine v_ic_ge C 68 dX12_goOn_59 (by decide) (fun c_59 => ?_) (fun c_59 => ?_)
              · exact hL68  (by clear C ih_7 ih_47 hL68; exact ⟨m1, m2, m4, by rw [← m3]; exact hi_stop (by grind) (by grind) (by grind)⟩)
              · refine v_iinc (v := hi + (-1)) (lv2 := [(2, .int (hi + (-1))), (1, .int lo), (0, .ref (E.ad 12 0))]) C 0 dX12_goOn_62 rfl rfl (by decide) rfl ?_
                refine v_goto C 47 dX12_goOn_65 (by decide) ?_
                exact ih_47 (hi + (-1)) (by clear C ih_7 ih_47 hL68; rcases m_dn (i := hi) (by grind) with q | q; exact Nat.lt_of_lt_of_le q (Nat.le_of_lt_succ hm_); exact absurd q (by grind)) (by clear C ih_7 ih_47 hL68; have q9 := hi_step (f := (w 57 0)) (lo := lo) (i := hi) (by grind) (by grind) (by grind) (Int32.not_le.mp c_59); refine ⟨?_, by grind, m4, q9.symm.trans m3⟩; by_cases e : hi = lo + 1; (subst e; exact absurd m5 (by clear m3 q9 k3 g3; grind)); (clear m3 q9 k3 g3; grind))
          exact hL47 _ ((w 1074 0 0) - 1) (Nat.lt_succ_self _) (by clear C ih_7 hL47; exact ⟨by grind, by grind, by grind, rfl⟩)
        · refine v_iconst (v := 0) C dX12_goOn_38 (by decide) ?_
          refine v_w (wS_id _ 57 0).symm ?_
          refine v_w (w2 := (wS w 57 0 (w 57 0))) (by simp only [wS_s, wS_t, wS_a, ne_eq, Nat.reduceEqDiff, not_false_eq_true, wS_wS, wS_p, wS_pp, Nat.reduceLT, id_eq, L7_1]) ?_
          have hN : nxt (w 57 0) (w 1074 0 0).toNatClampNeg = ((w 57 0), 0) := by simp only [nxt]; rw [k3, if_pos (by rw [show lo + 1 = 0 by grind]; rfl)]
          exact v_zret C dX12_goOn_39 (by decide) ⟨(by clear C ih_7; rw [hN]), (congr (congrArg Prod.mk (wS_eq rfl (by clear C ih_7; rw [hN]))) rfl)⟩
      refine v_iload_n C 0 dX12_goOn_7 rfl ?_
      refine v_if_lt C 34 dX12_goOn_8 (by decide) (fun c_8 => ?_) (fun c_8 => ?_)
      · exact hL34  (by clear C ih_7 hL34; refine ⟨g1, g2, by clear g3; grind, ?_⟩; rw [← g3]; by_cases hl : lo < 0; (rw [show lo + 1 = 0 by grind]; rfl); exact lo_stop (by grind) (by grind) (by grind))
      · refine v_aload_n C 1 dX12_goOn_11 rfl ?_
        refine v_gR C 12 0 50 57 0 (hM.2 _ (u_12 0 (by decide))) k_12 (by decide) x_1292 (fun _ _ _ => rfl) dX12_goOn_12 ?_
        refine v_iload_n C 0 dX12_goOn_15 rfl ?_
        refine v_iald C 57 0 (hM.2 _ (u_57 0 (by decide))) ⟨by decide, rfl, rfl⟩ (by exact v_in (N := 16) (by decide) (by grind) (by grind)) dX12_goOn_16 ?_
        refine v_aload_n C 1 dX12_goOn_17 rfl ?_
        refine v_gR C 12 0 50 57 0 (hM.2 _ (u_12 0 (by decide))) k_12 (by decide) x_1292 (fun _ _ _ => rfl) dX12_goOn_18 ?_
        refine v_iload_n C 0 dX12_goOn_21 rfl ?_
        refine v_iconst (v := 1) C dX12_goOn_22 (by decide) ?_
        refine v_iadd C dX12_goOn_23 ?_
        refine v_iald C 57 0 (hM.2 _ (u_57 0 (by decide))) ⟨by decide, rfl, rfl⟩ (by exact v_in (N := 16) (by decide) (by grind) (by grind)) dX12_goOn_24 ?_
        refine v_ic_le C 34 dX12_goOn_25 (by decide) (fun c_25 => ?_) (fun c_25 => ?_)
        · exact hL34  (by clear C ih_7 hL34; refine ⟨g1, g2, by clear g3; grind, ?_⟩; rw [← g3]; by_cases hl : lo < 0; (rw [show lo + 1 = 0 by grind]; rfl); exact lo_stop (by grind) (by grind) (by grind))
        · refine v_iinc (v := lo + (-1)) (lv2 := [(1, .int (lo + (-1))), (0, .ref (E.ad 12 0))]) C 0 dX12_goOn_28 rfl rfl (by decide) rfl ?_
          refine v_goto C 7 dX12_goOn_31 (by decide) ?_
          exact ih_7 (lo + (-1)) (by clear C ih_7 hL34; rcases m_dn (i := lo) (by grind) with q | q; exact Nat.lt_of_lt_of_le q (Nat.le_of_lt_succ hm_); exact absurd q (by grind)) (by clear C ih_7 hL34; exact ⟨by grind, by grind, by rw [← g3, show lo + (-1) + 1 = lo by grind, lo_step (by grind) (by grind) (by grind)]⟩)
  exact hL7 _ ((w 1074 0 0) - 2) (Nat.lt_succ_self _) (by clear C hL7; exact ⟨by grind, by grind, by rw [show (w 1074 0 0) - 2 + 1 = (w 1074 0 0) - 1 by grind]⟩)
