abbrev P_X10_stopsWithout (w : Wi) (z : Wj) (k : Int32) (n : Int32) (sp : Int32) : Int32 → WW → Prop := fun r_ u_ => ∃ (uh_ : Wi), r_ = (swR (fun s => runV sp ((w 500 2 0), (w 501 2 0), (w 502 2 0), (w 30 2), (setOut (w 32 2) (w 40 0) s (n).toNatClampNeg), (w 33 2), (w 34 2), (w 35 2), (w 36 2)) (w 31 2) ((w 420 0 0), (w 421 0 0), (w 27 0), (w 28 0), (w 29 0)) (w 911 0 0) (w 912 0 0) (w 913 0 0)) k ((1 : Int32) <<< (n &&& 31)).toNatClampNeg 0) ∧ u_ = ((wB w SC5 uh_), z) ∧ (∀ j, (∀ i, i < (n).toNatClampNeg → ((w 40 0) i).toNatClampNeg ≠ j) → uh_ 32 2 j = (w 32 2) j)
set_option maxHeartbeats 4000000 in
set_option maxRecDepth 100000 in
theorem c_X10_stopsWithout (E : En) (hE : q_ok E) (w : Wi) (z : Wj) (k : Int32) (n : Int32) (sp : Int32) (h1 : 0 ≤ (w 500 2 0)) (h2 : (w 500 2 0) ≤ 16) (h3 : 0 ≤ n) (h4 : n ≤ 10) (h5 : ∀ i, i < (n).toNatClampNeg → 1 ≤ (w 40 0) i ∧ (w 40 0) i ≤ (w 500 2 0)) : CtI M_X10_stopsWithout E [.ref (E.ad 10 0), .int k, .int n, .int sp] w z (P_X10_stopsWithout w z k n sp) := by
  refine ctI_of (lv := [(0, .ref (E.ad 10 0)), (1, .int k), (2, .int n), (3, .int sp)]) hE m_X10_stopsWithout (Nat.le_of_ble_eq_true rfl) rfl ?_
  intro K A C0
  have C : Cx K E A cX10_stopsWithout 6 RX10 (some .boolean) { frames := 5, cells := 0, slots := 0, locals := 121 } := C0
  clear C0
  obtain ⟨hM1, hM2⟩ := shl_b h3 h4
  obtain ⟨G, hG⟩ : ∃ G : Int32 → Int32, G = (fun s => runV sp ((w 500 2 0), (w 501 2 0), (w 502 2 0), (w 30 2), (setOut (w 32 2) (w 40 0) s (n).toNatClampNeg), (w 33 2), (w 34 2), (w 35 2), (w 36 2)) (w 31 2) ((w 420 0 0), (w 421 0 0), (w 27 0), (w 28 0), (w 29 0)) (w 911 0 0) (w 912 0 0) (w 913 0 0)) := ⟨_, rfl⟩
  refine v_iconst (v := 0) C dX10_stopsWithout_0 (by decide) ?_
  refine v_istore (lv2 := [(4, .int 0), (0, .ref (E.ad 10 0)), (1, .int k), (2, .int n), (3, .int sp)]) C dX10_stopsWithout_1 (by decide) rfl ?_
  have hL3 : ∀ (n_ : Nat) (s : Int32) (U : Wi), (1025 - s).toNatClampNeg < n_ → (0 ≤ s ∧ s ≤ ((1 : Int32) <<< (n &&& 31)) ∧ (∀ j, (∀ i, i < n.toNatClampNeg → ((w 40 0) i).toNatClampNeg ≠ j) → U 32 2 j = (w 32 2) j) ∧ swR G k (((1 : Int32) <<< (n &&& 31)) - s).toNatClampNeg s = swR G k ((1 : Int32) <<< (n &&& 31)).toNatClampNeg 0) → V K E A 6 (QI K E A (P_X10_stopsWithout w z k n sp)) 3 [(4, .int s), (0, .ref (E.ad 10 0)), (1, .int k), (2, .int n), (3, .int sp)] [] (wB w SC5 U) z := by
    intro n_
    induction n_ with
    | zero => intro s U hm_; exact absurd hm_ (Nat.not_lt_zero _)
    | succ n_ ih_3 =>
      intro s U hm_ hinv
      obtain ⟨g1, g2, gu, g3⟩ := hinv
      refine v_iload C 0 dX10_stopsWithout_3 rfl ?_
      refine v_iconst (v := 1) C dX10_stopsWithout_5 (by decide) ?_
      refine v_iload_n C 3 dX10_stopsWithout_6 rfl ?_
      refine v_ishl C dX10_stopsWithout_7 ?_
      refine v_ic_ge C 81 dX10_stopsWithout_8 (by decide) (fun c_8 => ?_) (fun c_8 => ?_)
      · refine v_iconst (v := 1) C dX10_stopsWithout_81 (by decide) ?_
        rw [hG] at g3
        exact v_zret C dX10_stopsWithout_82 (by decide) ⟨_, (by clear C ih_3; rw [← g3, show ((1 : Int32) <<< (n &&& 31)) - s = 0 by clear g3; grind]; rfl), (congr (congrArg Prod.mk (kp_e (kp_B (by decide) kp_r))) rfl), (by exact gu)⟩
      · have hL75 : ∀ (U2 : Wi), ((∀ j, (∀ i, i < n.toNatClampNeg → ((w 40 0) i).toNatClampNeg ≠ j) → U2 32 2 j = (w 32 2) j) ∧ ¬ (bcF s = k ∧ G s = (-1))) → V K E A 6 (QI K E A (P_X10_stopsWithout w z k n sp)) 75 [(4, .int s), (0, .ref (E.ad 10 0)), (1, .int k), (2, .int n), (3, .int sp)] [] (wB w SC5 U2) z := by
          intro U2 hinv
          obtain ⟨gv, ge⟩ := hinv
          refine v_iinc (v := s + 1) (lv2 := [(4, .int (s + 1)), (0, .ref (E.ad 10 0)), (1, .int k), (2, .int n), (3, .int sp)]) C 0 dX10_stopsWithout_75 rfl rfl (by decide) rfl ?_
          refine v_goto C 3 dX10_stopsWithout_78 (by decide) ?_
          refine v_w (kp_e (S := SC5) (w := w) (kp_B (by decide) kp_r)) ?_
          exact ih_3 (s + 1) _ (by clear C ih_3; exact Nat.lt_of_lt_of_le (m_up (by grind) (by grind)) (Nat.le_of_lt_succ hm_)) (by clear C ih_3; refine ⟨by clear g3; grind, by clear g3; grind, gv, ?_⟩; rw [← g3, m_dnn g1 (by clear g3; grind)]; simp only [swR]; rw [if_neg ge])
        refine v_iload C 0 dX10_stopsWithout_11 rfl ?_
        refine v_sI C [.int s] 1 (c_J6_bitCount_0f7a4 E hE _ _  s  ) m_J6_bitCount_0f7a4 x_988 x_989 p_J6_bitCount_0f7a4 rfl ⟨Nat.le_of_ble_eq_true rfl, Nat.le_of_ble_eq_true rfl⟩ rfl (Nat.le_of_ble_eq_true rfl) dX10_stopsWithout_13 (fun r1 u1 v1 hp1 => ?_)
        obtain ⟨hr1, hu1⟩ := hp1
        subst hr1
        cases hu1
        refine v_iload_n C 2 dX10_stopsWithout_16 rfl ?_
        refine v_ic_ne C 75 dX10_stopsWithout_17 (by decide) (fun c_17 => ?_) (fun c_17 => ?_)
        · refine v_w (kp_e (S := SC5) (w := w) (kp_B (by decide) kp_r)) ?_
          exact hL75 _ (by clear C ih_3 hL75; first | exact ⟨gu, fun q => by grind⟩ | (refine ⟨?_, fun q => c_70 (by have q2 := q.2; rw [hG] at q2; rw [eO2]; exact q2)⟩; simp (decide := true) only [wB_o, wB_i, wS_s, wS_t, wS_a, ne_eq, Nat.reduceEqDiff, not_false_eq_true]; intro j hj; rw [eO, setOut_n _ _ _ _ _ hj]; exact gu j hj))
        · have hL64 : ∀ (O2 : Row), (O2 = setOut (U 32 2) (w 40 0) s n.toNatClampNeg) → V K E A 6 (QI K E A (P_X10_stopsWithout w z k n sp)) 64 [(4, .int s), (0, .ref (E.ad 10 0)), (1, .int k), (2, .int n), (3, .int sp)] [] (wS (wB w SC5 U) 32 2 O2) z := by
            intro O2 hinv
            have eO := hinv
            have eO2 : O2 = setOut (w 32 2) (w 40 0) s n.toNatClampNeg := eO.trans (setOut_e gu s)
            refine v_aload_n C 1 dX10_stopsWithout_64 rfl ?_
            refine v_iload_n C 4 dX10_stopsWithout_65 rfl ?_
            refine v_vI C 10 0 [.int sp] 1 (c_X10_spanOfBent E hE _ _  sp  (by clear C ih_3 hL75; (try simp (decide := true) only [wB_o, wB_i, wS_s, wS_t, wS_a, ne_eq, Nat.reduceEqDiff, not_false_eq_true]); grind) (by clear C ih_3 hL75; (try simp (decide := true) only [wB_o, wB_i, wS_s, wS_t, wS_a, ne_eq, Nat.reduceEqDiff, not_false_eq_true]); grind)) m_X10_spanOfBent x_947 x_949 x_18 p_X10_spanOfBent rfl ⟨Nat.le_of_ble_eq_true rfl, Nat.le_of_ble_eq_true rfl⟩ (C_m C (u_10 0 (by decide))) k_10 rfl (Nat.le_of_ble_eq_true rfl) dX10_stopsWithout_66 (fun r2 u2 v2 hp2 => ?_)
            obtain ⟨uh2, hr2, hu2⟩ := hp2
            subst hr2
            cases hu2
            refine v_i (y := runV sp ((w 500 2 0), (w 501 2 0), (w 502 2 0), (w 30 2), O2, (w 33 2), (w 34 2), (w 35 2), (w 36 2)) (w 31 2) ((w 420 0 0), (w 421 0 0), (w 27 0), (w 28 0), (w 29 0)) (w 911 0 0) (w 912 0 0) (w 913 0 0)) (by simp (decide := true) only [wB_o, wB_i, wS_s, wS_t, wS_a, ne_eq, Nat.reduceEqDiff, not_false_eq_true]) ?_
            refine v_w (w2 := (wB (wS (wB w SC5 U) 32 2 O2) SC1 uh2)) (by simp (decide := true) only [wB_o, wB_i, wS_s, wS_t, wS_a, ne_eq, Nat.reduceEqDiff, not_false_eq_true, wS_wS, wS_p, wS_pp, Nat.reduceLT, id_eq]) ?_
            refine v_iconst (v := (-1)) C dX10_stopsWithout_69 (by decide) ?_
            refine v_ic_ne C 75 dX10_stopsWithout_70 (by decide) (fun c_70 => ?_) (fun c_70 => ?_)
            · refine v_w (kp_e (S := SC5) (w := w) (kp_B (by decide) (kp_S (by decide) (kp_B (by decide) kp_r)))) ?_
              exact hL75 _ (by clear C ih_3 hL75; first | exact ⟨gu, fun q => by grind⟩ | (refine ⟨?_, fun q => c_70 (by have q2 := q.2; rw [hG] at q2; rw [eO2]; exact q2)⟩; simp (decide := true) only [wB_o, wB_i, wS_s, wS_t, wS_a, ne_eq, Nat.reduceEqDiff, not_false_eq_true]; intro j hj; rw [eO, setOut_n _ _ _ _ _ hj]; exact gu j hj))
            · refine v_iconst (v := 0) C dX10_stopsWithout_73 (by decide) ?_
              rw [hG] at g3
              exact v_zret C dX10_stopsWithout_74 (by decide) ⟨_, (by clear C ih_3 hL75; rw [← g3, m_dnn g1 (by clear g3; grind)]; simp only [swR]; rw [if_pos ⟨by assumption, by rw [← eO2]; assumption⟩]), (congr (congrArg Prod.mk (kp_e (kp_B (by decide) (kp_S (by decide) (kp_B (by decide) kp_r))))) rfl), (by simp (decide := true) only [wB_o, wB_i, wS_s, wS_t, wS_a, ne_eq, Nat.reduceEqDiff, not_false_eq_true]; intro j hj; rw [eO, setOut_n _ _ _ _ _ hj]; exact gu j hj)⟩
          refine v_iconst (v := 0) C dX10_stopsWithout_20 (by decide) ?_
          refine v_istore (lv2 := [(5, .int 0), (4, .int s), (0, .ref (E.ad 10 0)), (1, .int k), (2, .int n), (3, .int sp)]) C dX10_stopsWithout_21 (by decide) rfl ?_
          have hL23 : ∀ (n_ : Nat) (j : Int32) (O : Row), (11 - j).toNatClampNeg < n_ → (0 ≤ j ∧ j ≤ n ∧ O = setOut (U 32 2) (w 40 0) s j.toNatClampNeg) → V K E A 6 (QI K E A (P_X10_stopsWithout w z k n sp)) 23 [(5, .int j), (4, .int s), (0, .ref (E.ad 10 0)), (1, .int k), (2, .int n), (3, .int sp)] [] (wS (wB w SC5 U) 32 2 O) z := by
            intro n_
            induction n_ with
            | zero => intro j O hm_; exact absurd hm_ (Nat.not_lt_zero _)
            | succ n_ ih_23 =>
              intro j O hm_ hinv
              obtain ⟨q1, q2, q3⟩ := hinv
              have q4 : j < n → 1 ≤ (w 40 0) j.toNatClampNeg ∧ (w 40 0) j.toNatClampNeg ≤ (w 500 2 0) := fun q => h5 _ ((cl_lt q1 h3).mpr q)
              refine v_iload C 0 dX10_stopsWithout_23 rfl ?_
              refine v_iload_n C 4 dX10_stopsWithout_25 rfl ?_
              refine v_ic_ge C 64 dX10_stopsWithout_26 (by decide) (fun c_26 => ?_) (fun c_26 => ?_)
              · refine v_l [1, 2, 3, 4, 5] rfl ?_
                exact hL64 O (by clear C ih_3 hL75 hL64 ih_23; rw [show n = j by clear g3; grind]; exact q3)
              · refine v_iload C 0 dX10_stopsWithout_29 rfl ?_
                refine v_bipush (v := 10) C dX10_stopsWithout_31 (by decide) ?_
                refine v_ic_ge C 64 dX10_stopsWithout_33 (by decide) (fun c_33 => absurd c_33 (by clear C ih_3 hL75 hL64 ih_23; clear g3; grind)) (fun c_33 => ?_)
                refine v_aload_n C 2 dX10_stopsWithout_36 rfl ?_
                refine v_gR C 10 0 2 5 2 (C_m C (u_10 0 (by decide))) k_10 (by decide) x_359 (fun _ _ _ => rfl) dX10_stopsWithout_37 ?_
                refine v_aload_n C 2 dX10_stopsWithout_40 rfl ?_
                refine v_gR C 10 0 10 40 0 (C_m C (u_10 0 (by decide))) k_10 (by decide) x_367 (fun _ _ _ => rfl) dX10_stopsWithout_41 ?_
                refine v_iload C 0 dX10_stopsWithout_44 rfl ?_
                refine v_iald C 40 0 (C_m C (u_40 0 (by decide))) ⟨by decide, rfl, rfl⟩ (by exact v_in (N := 10) (by decide) (by grind) (by grind)) dX10_stopsWithout_46 ?_
                refine v_i (y := ((w 40 0) j.toNatClampNeg)) (by simp (decide := true) only [wB_o, wB_i, wS_s, wS_t, wS_a, ne_eq, Nat.reduceEqDiff, not_false_eq_true]) ?_
                refine v_iconst (v := 2) C dX10_stopsWithout_47 (by decide) ?_
                refine v_iload C 1 dX10_stopsWithout_48 rfl ?_
                refine v_iload C 0 dX10_stopsWithout_50 rfl ?_
                refine v_ishr C dX10_stopsWithout_52 ?_
                refine v_iconst (v := 1) C dX10_stopsWithout_53 (by decide) ?_
                refine v_iand C dX10_stopsWithout_54 ?_
                refine v_vV C 5 2 [.int ((w 40 0) j.toNatClampNeg), .int 2, .int ((s >>> (j &&& 31)) &&& 1)] 3 (c_X5_setFact_2 E hE _ _ 2 (by decide) ((w 40 0) j.toNatClampNeg) ((s >>> (j &&& 31)) &&& 1)  (by clear C ih_3 hL75 hL64 ih_23; (try simp (decide := true) only [wB_o, wB_i, wS_s, wS_t, wS_a, ne_eq, Nat.reduceEqDiff, not_false_eq_true]); grind) (by clear C ih_3 hL75 hL64 ih_23; (try simp (decide := true) only [wB_o, wB_i, wS_s, wS_t, wS_a, ne_eq, Nat.reduceEqDiff, not_false_eq_true]); grind) (by clear C ih_3 hL75 hL64 ih_23; (try simp (decide := true) only [wB_o, wB_i, wS_s, wS_t, wS_a, ne_eq, Nat.reduceEqDiff, not_false_eq_true]); grind)) m_X5_setFact x_994 x_706 x_707 p_X5_setFact rfl ⟨Nat.le_of_ble_eq_true rfl, Nat.le_of_ble_eq_true rfl⟩ (C_m C (u_5 2 (by decide))) k_5 rfl (Nat.le_of_ble_eq_true rfl) dX10_stopsWithout_55 (fun u3 v3 hp3 => ?_)
                have hu3 := hp3
                cases hu3
                refine v_w (w2 := (wS (wB w SC5 U) 32 2 (upd O (((w 40 0) j.toNatClampNeg)).toNatClampNeg ((s >>> (j &&& 31)) &&& 1)))) (by simp (decide := true) only [wB_o, wB_i, wS_s, wS_t, wS_a, ne_eq, Nat.reduceEqDiff, not_false_eq_true, wS_wS, wS_p, wS_pp, Nat.reduceLT, id_eq]) ?_
                refine v_iinc (v := j + 1) (lv2 := [(5, .int (j + 1)), (4, .int s), (0, .ref (E.ad 10 0)), (1, .int k), (2, .int n), (3, .int sp)]) C 0 dX10_stopsWithout_58 rfl rfl (by decide) rfl ?_
                refine v_goto C 23 dX10_stopsWithout_61 (by decide) ?_
                exact ih_23 (j + 1) (upd O (((w 40 0) j.toNatClampNeg)).toNatClampNeg ((s >>> (j &&& 31)) &&& 1)) (by clear C ih_3 hL75 hL64 ih_23; exact Nat.lt_of_lt_of_le (m_up (by grind) (by grind)) (Nat.le_of_lt_succ hm_)) (by clear C ih_3 hL75 hL64 ih_23; refine ⟨by clear g3; grind, by clear g3; grind, ?_⟩; rw [cl_succ q1 (by clear g3; grind)]; simp only [setOut, nI_cl q1]; rw [q3])
          refine v_w (wS_id _ 32 2).symm ?_
          refine v_w (w2 := (wS (wB w SC5 U) 32 2 (U 32 2))) (by simp (decide := true) only [wB_o, wB_i, wS_s, wS_t, wS_a, ne_eq, Nat.reduceEqDiff, not_false_eq_true, wS_wS, wS_p, wS_pp, Nat.reduceLT, id_eq]) ?_
          exact hL23 _ 0 (U 32 2) (Nat.lt_succ_self _) (by clear C ih_3 hL75 hL64 hL23; exact ⟨by decide, h3, rfl⟩)
  refine v_w (kp_e (S := SC5) (w := w) kp_r) ?_
  exact hL3 _ 0 _ (Nat.lt_succ_self _) (by clear C hL3; exact ⟨by decide, by grind, fun _ _ => rfl, by rw [show ((1 : Int32) <<< (n &&& 31)) - 0 = ((1 : Int32) <<< (n &&& 31)) by grind]⟩)
