abbrev P_X2_doesFit (w : Wi) (z : Wj) (off : Int32) (hot : Int32) : Int32 → WW → Prop := fun r_ u_ => ∃ (uh_ : Wi), r_ = (fitV ((w 21 0), (w 22 0), (w 23 0), ((w 267 0 0)).toNatClampNeg, off) ((w 500 3 0), (w 501 3 0), (w 502 3 0), (w 30 3), (w 32 3), (w 33 3), (w 34 3), (w 35 3), (w 36 3)) ((w 420 0 0), (w 421 0 0), (w 27 0), (w 28 0), (w 29 0)) (w 268 0 0) hot) ∧ u_ = ((wB w SC8 uh_), z)
set_option maxHeartbeats 4000000 in
set_option maxRecDepth 100000 in
theorem c_X2_doesFit (E : En) (hE : q_ok E) (w : Wi) (z : Wj) (off : Int32) (hot : Int32) (h1 : 0 ≤ (w 500 3 0)) (h2 : (w 500 3 0) ≤ 16) (h3 : 0 ≤ (w 267 0 0)) (h4 : (w 267 0 0) ≤ 8) (h5 : 0 ≤ (w 268 0 0)) (h6 : (w 268 0 0) ≤ 400) : CtI M_X2_doesFit E [.ref (E.ad 2 0), .int off, .int hot] w z (P_X2_doesFit w z off hot) := by
  refine ctI_of (lv := [(0, .ref (E.ad 2 0)), (1, .int off), (2, .int hot)]) hE m_X2_doesFit (Nat.le_of_ble_eq_true rfl) rfl ?_
  intro K A C0
  have C : Cx K E A cX2_doesFit 4 RX2 (some .boolean) { frames := 3, cells := 0, slots := 0, locals := 75 } := C0
  clear C0
  obtain ⟨Hv, hH⟩ : ∃ Hv : Int32 × AS, Hv = fitR ((w 21 0), (w 22 0), (w 23 0), ((w 267 0 0)).toNatClampNeg, off) ((w 500 3 0), (w 501 3 0), (w 502 3 0), (w 30 3), (w 32 3), (w 33 3), (w 34 3), (w 35 3), (w 36 3)) ((w 420 0 0), (w 421 0 0), (w 27 0), (w 28 0), (w 29 0)) (w 268 0 0).toNatClampNeg 1 (st0 (w 501 3 0)) := ⟨_, rfl⟩
  have h8 := cl17 h1 h2
  refine v_aload_n C 0 dX2_doesFit_0 rfl ?_
  refine v_gR C 2 0 3 0 3 (C_m C (u_2 0 (by decide))) k_2 (by decide) x_413 (fun _ _ _ => rfl) dX2_doesFit_1 ?_
  refine v_aload_n C 0 dX2_doesFit_4 rfl ?_
  refine v_gR C 2 0 2 5 3 (C_m C (u_2 0 (by decide))) k_2 (by decide) x_412 (fun _ _ _ => rfl) dX2_doesFit_5 ?_
  refine v_vV C 0 3 [.ref (E.ad 5 3)] 1 (c_X0_start E hE _ _ 3 (by decide) 3 (by decide)   ) m_X0_start x_1027 x_788 x_789 p_X0_start rfl ⟨Nat.le_of_ble_eq_true rfl, Nat.le_of_ble_eq_true rfl⟩ (C_m C (u_0 3 (by decide))) k_0 rfl (Nat.le_of_ble_eq_true rfl) dX2_doesFit_8 (fun u1 v1 hp1 => ?_)
  have hu1 := hp1
  cases hu1
  refine v_iconst (v := 1) C dX2_doesFit_11 (by decide) ?_
  refine v_istore_n (lv2 := [(3, .int 1), (0, .ref (E.ad 2 0)), (1, .int off), (2, .int hot)]) C dX2_doesFit_12 rfl (by decide) rfl ?_
  have hL13 : ∀ (n_ : Nat) (t : Int32) (U : Wi), (500 - t).toNatClampNeg < n_ → (1 ≤ t ∧ t ≤ (w 268 0 0) + 1 ∧ ∃ S : AS, AE (tA U 3) S ∧ fitR ((w 21 0), (w 22 0), (w 23 0), ((w 267 0 0)).toNatClampNeg, off) ((w 500 3 0), (w 501 3 0), (w 502 3 0), (w 30 3), (w 32 3), (w 33 3), (w 34 3), (w 35 3), (w 36 3)) ((w 420 0 0), (w 421 0 0), (w 27 0), (w 28 0), (w 29 0)) ((w 268 0 0) + 1 - t).toNatClampNeg t S = Hv) → V K E A 4 (QI K E A (P_X2_doesFit w z off hot)) 13 [(3, .int t), (0, .ref (E.ad 2 0)), (1, .int off), (2, .int hot)] [] (wB w SC8 U) z := by
    intro n_
    induction n_ with
    | zero => intro t U hm_; exact absurd hm_ (Nat.not_lt_zero _)
    | succ n_ ih_13 =>
      intro t U hm_ hinv
      obtain ⟨g1, g2, S, gA, g3⟩ := hinv
      refine v_iload_n C 0 dX2_doesFit_13 rfl ?_
      refine v_aload_n C 1 dX2_doesFit_14 rfl ?_
      refine v_gI C 2 0 8 268 (w 268 0 0) (C_m C (u_2 0 (by decide))) k_2 (by decide) rfl rfl x_418 (by simp (decide := true) only [wB_o, wB_i, wS_s, wS_t, wS_a, ne_eq, Nat.reduceEqDiff, not_false_eq_true]) dX2_doesFit_15 ?_
      refine v_ic_gt C 53 dX2_doesFit_18 (by decide) (fun c_18 => ?_) (fun c_18 => ?_)
      · refine v_iload_n C 3 dX2_doesFit_53 rfl ?_
        refine v_iconst (v := (-1)) C dX2_doesFit_54 (by decide) ?_
        refine v_ic_eq C 73 dX2_doesFit_55 (by decide) (fun c_55 => ?_) (fun c_55 => ?_)
        · refine v_iconst (v := 1) C dX2_doesFit_73 (by decide) ?_
          refine v_goto C 78 dX2_doesFit_74 (by decide) ?_
          exact v_zret C dX2_doesFit_78 (by decide) ⟨_, (by clear C ih_13; simp only [fitV]; rw [← hH, ← g3, show (w 268 0 0) + 1 - t = 0 by clear g3 gA; grind]; have q := hotR_ag gA.2.2.1 (sz_b h1 h2); simp only [fitE, fitR, show (0 : Int32).toNatClampNeg = 0 from rfl]; dsimp only at q; rw [← q]; clear g3 gA; first | (rw [if_pos (by grind)]) | (rw [if_neg (by grind)])), (congr (congrArg Prod.mk (kp_e (kp_B (by decide) kp_r))) rfl)⟩
        · refine v_aload_n C 1 dX2_doesFit_58 rfl ?_
          refine v_gR C 2 0 3 0 3 (C_m C (u_2 0 (by decide))) k_2 (by decide) x_413 (fun _ _ _ => rfl) dX2_doesFit_59 ?_
          refine v_aload_n C 1 dX2_doesFit_62 rfl ?_
          refine v_gR C 2 0 2 5 3 (C_m C (u_2 0 (by decide))) k_2 (by decide) x_412 (fun _ _ _ => rfl) dX2_doesFit_63 ?_
          refine v_vI C 0 3 [.ref (E.ad 5 3)] 1 (c_X0_hotSet E hE _ _ 3 (by decide) 3 (by decide)   (by clear C ih_13; (try simp (decide := true) only [wB_o, wB_i, wS_s, wS_t, wS_a, ne_eq, Nat.reduceEqDiff, not_false_eq_true]); assumption) (by clear C ih_13; (try simp (decide := true) only [wB_o, wB_i, wS_s, wS_t, wS_a, ne_eq, Nat.reduceEqDiff, not_false_eq_true]); assumption)) m_X0_hotSet x_1037 x_1038 x_1039 p_X0_hotSet rfl ⟨Nat.le_of_ble_eq_true rfl, Nat.le_of_ble_eq_true rfl⟩ (C_m C (u_0 3 (by decide))) k_0 rfl (Nat.le_of_ble_eq_true rfl) dX2_doesFit_66 (fun r2 u2 v2 hp2 => ?_)
          obtain ⟨hr2, hu2⟩ := hp2
          subst hr2
          cases hu2
          refine v_i (y := hotR (U 16 3) ((w 500 3 0) + 1).toNatClampNeg) (by simp (decide := true) only [wB_o, wB_i, wS_s, wS_t, wS_a, ne_eq, Nat.reduceEqDiff, not_false_eq_true]) ?_
          refine v_iload_n C 3 dX2_doesFit_69 rfl ?_
          refine v_ic_ne C 77 dX2_doesFit_70 (by decide) (fun c_70 => ?_) (fun c_70 => ?_)
          · refine v_iconst (v := 0) C dX2_doesFit_77 (by decide) ?_
            exact v_zret C dX2_doesFit_78 (by decide) ⟨_, (by clear C ih_13; simp only [fitV]; rw [← hH, ← g3, show (w 268 0 0) + 1 - t = 0 by clear g3 gA; grind]; have q := hotR_ag gA.2.2.1 (sz_b h1 h2); simp only [fitE, fitR, show (0 : Int32).toNatClampNeg = 0 from rfl]; dsimp only at q; rw [← q]; clear g3 gA; first | (rw [if_pos (by grind)]) | (rw [if_neg (by grind)])), (congr (congrArg Prod.mk (kp_e (kp_B (by decide) kp_r))) rfl)⟩
          · refine v_iconst (v := 1) C dX2_doesFit_73 (by decide) ?_
            refine v_goto C 78 dX2_doesFit_74 (by decide) ?_
            exact v_zret C dX2_doesFit_78 (by decide) ⟨_, (by clear C ih_13; simp only [fitV]; rw [← hH, ← g3, show (w 268 0 0) + 1 - t = 0 by clear g3 gA; grind]; have q := hotR_ag gA.2.2.1 (sz_b h1 h2); simp only [fitE, fitR, show (0 : Int32).toNatClampNeg = 0 from rfl]; dsimp only at q; rw [← q]; clear g3 gA; first | (rw [if_pos (by grind)]) | (rw [if_neg (by grind)])), (congr (congrArg Prod.mk (kp_e (kp_B (by decide) kp_r))) rfl)⟩
      · refine v_aload_n C 1 dX2_doesFit_21 rfl ?_
        refine v_gR C 2 0 3 0 3 (C_m C (u_2 0 (by decide))) k_2 (by decide) x_413 (fun _ _ _ => rfl) dX2_doesFit_22 ?_
        refine v_aload_n C 1 dX2_doesFit_25 rfl ?_
        refine v_gR C 2 0 2 5 3 (C_m C (u_2 0 (by decide))) k_2 (by decide) x_412 (fun _ _ _ => rfl) dX2_doesFit_26 ?_
        refine v_aload_n C 1 dX2_doesFit_29 rfl ?_
        refine v_gR C 2 0 1 4 0 (C_m C (u_2 0 (by decide))) k_2 (by decide) x_411 (fun _ _ _ => rfl) dX2_doesFit_30 ?_
        refine v_vV C 0 3 [.ref (E.ad 5 3), .ref (E.ad 4 0)] 2 (c_X0_advance E hE _ _ 3 (by decide) 3 (by decide) 0 (by decide)   (by clear C ih_13; (try simp (decide := true) only [wB_o, wB_i, wS_s, wS_t, wS_a, ne_eq, Nat.reduceEqDiff, not_false_eq_true]); assumption) (by clear C ih_13; (try simp (decide := true) only [wB_o, wB_i, wS_s, wS_t, wS_a, ne_eq, Nat.reduceEqDiff, not_false_eq_true]); assumption)) m_X0_advance x_1028 x_792 x_793 p_X0_advance rfl ⟨Nat.le_of_ble_eq_true rfl, Nat.le_of_ble_eq_true rfl⟩ (C_m C (u_0 3 (by decide))) k_0 rfl (Nat.le_of_ble_eq_true rfl) dX2_doesFit_33 (fun u3 v3 hp3 => ?_)
        have hu3 := hp3
        cases hu3
        refine v_w (w2 := (wS (wS (wS (wS (wS (wS (wS (wB w SC8 U) 13 3 ((advF ((w 500 3 0), (w 501 3 0), (w 502 3 0), (w 30 3), (w 32 3), (w 33 3), (w 34 3), (w 35 3), (w 36 3)) ((w 420 0 0), (w 421 0 0), (w 27 0), (w 28 0), (w 29 0)) ((U 13 3), (U 14 3), (U 15 3), (U 16 3), (U 104 3 0), (U 105 3 0), (U 106 3 0), (U 107 3 0), (U 108 3 0), (U 109 3 0))).1)) 14 3 ((advF ((w 500 3 0), (w 501 3 0), (w 502 3 0), (w 30 3), (w 32 3), (w 33 3), (w 34 3), (w 35 3), (w 36 3)) ((w 420 0 0), (w 421 0 0), (w 27 0), (w 28 0), (w 29 0)) ((U 13 3), (U 14 3), (U 15 3), (U 16 3), (U 104 3 0), (U 105 3 0), (U 106 3 0), (U 107 3 0), (U 108 3 0), (U 109 3 0))).2.1)) 15 3 ((advF ((w 500 3 0), (w 501 3 0), (w 502 3 0), (w 30 3), (w 32 3), (w 33 3), (w 34 3), (w 35 3), (w 36 3)) ((w 420 0 0), (w 421 0 0), (w 27 0), (w 28 0), (w 29 0)) ((U 13 3), (U 14 3), (U 15 3), (U 16 3), (U 104 3 0), (U 105 3 0), (U 106 3 0), (U 107 3 0), (U 108 3 0), (U 109 3 0))).2.2.1)) 16 3 ((advF ((w 500 3 0), (w 501 3 0), (w 502 3 0), (w 30 3), (w 32 3), (w 33 3), (w 34 3), (w 35 3), (w 36 3)) ((w 420 0 0), (w 421 0 0), (w 27 0), (w 28 0), (w 29 0)) ((U 13 3), (U 14 3), (U 15 3), (U 16 3), (U 104 3 0), (U 105 3 0), (U 106 3 0), (U 107 3 0), (U 108 3 0), (U 109 3 0))).2.2.2.1)) 104 3 (fun _ => (advF ((w 500 3 0), (w 501 3 0), (w 502 3 0), (w 30 3), (w 32 3), (w 33 3), (w 34 3), (w 35 3), (w 36 3)) ((w 420 0 0), (w 421 0 0), (w 27 0), (w 28 0), (w 29 0)) ((U 13 3), (U 14 3), (U 15 3), (U 16 3), (U 104 3 0), (U 105 3 0), (U 106 3 0), (U 107 3 0), (U 108 3 0), (U 109 3 0))).2.2.2.2.1)) 105 3 (fun _ => (advF ((w 500 3 0), (w 501 3 0), (w 502 3 0), (w 30 3), (w 32 3), (w 33 3), (w 34 3), (w 35 3), (w 36 3)) ((w 420 0 0), (w 421 0 0), (w 27 0), (w 28 0), (w 29 0)) ((U 13 3), (U 14 3), (U 15 3), (U 16 3), (U 104 3 0), (U 105 3 0), (U 106 3 0), (U 107 3 0), (U 108 3 0), (U 109 3 0))).2.2.2.2.2.1)) 109 3 (fun _ => (advF ((w 500 3 0), (w 501 3 0), (w 502 3 0), (w 30 3), (w 32 3), (w 33 3), (w 34 3), (w 35 3), (w 36 3)) ((w 420 0 0), (w 421 0 0), (w 27 0), (w 28 0), (w 29 0)) ((U 13 3), (U 14 3), (U 15 3), (U 16 3), (U 104 3 0), (U 105 3 0), (U 106 3 0), (U 107 3 0), (U 108 3 0), (U 109 3 0))).2.2.2.2.2.2.2.2.2))) (by simp (decide := true) only [wB_o, wB_i, wS_s, wS_t, wS_a, ne_eq, Nat.reduceEqDiff, not_false_eq_true, wS_wS, wS_p, wS_pp, Nat.reduceLT, id_eq]) ?_
        refine v_aload_n C 1 dX2_doesFit_36 rfl ?_
        refine v_iload_n C 0 dX2_doesFit_37 rfl ?_
        refine v_iload_n C 2 dX2_doesFit_38 rfl ?_
        refine v_vI C 2 0 [.int t, .int off] 2 (c_X2_agrees E hE _ _  t off  (by clear C ih_13; (try simp (decide := true) only [wB_o, wB_i, wS_s, wS_t, wS_a, ne_eq, Nat.reduceEqDiff, not_false_eq_true]); assumption) (by clear C ih_13; (try simp (decide := true) only [wB_o, wB_i, wS_s, wS_t, wS_a, ne_eq, Nat.reduceEqDiff, not_false_eq_true]); assumption) (by clear C ih_13; (try simp (decide := true) only [wB_o, wB_i, wS_s, wS_t, wS_a, ne_eq, Nat.reduceEqDiff, not_false_eq_true]); assumption) (by clear C ih_13; (try simp (decide := true) only [wB_o, wB_i, wS_s, wS_t, wS_a, ne_eq, Nat.reduceEqDiff, not_false_eq_true]); assumption)) m_X2_agrees x_1029 x_1031 x_26 p_X2_agrees rfl ⟨Nat.le_of_ble_eq_true rfl, Nat.le_of_ble_eq_true rfl⟩ (C_m C (u_2 0 (by decide))) k_2 rfl (Nat.le_of_ble_eq_true rfl) dX2_doesFit_39 (fun r4 u4 v4 hp4 => ?_)
        obtain ⟨hr4, hu4⟩ := hp4
        subst hr4
        cases hu4
        refine v_i (y := agF (w 21 0) (w 22 0) (w 23 0) ((w 267 0 0)).toNatClampNeg t off (((advF ((w 500 3 0), (w 501 3 0), (w 502 3 0), (w 30 3), (w 32 3), (w 33 3), (w 34 3), (w 35 3), (w 36 3)) ((w 420 0 0), (w 421 0 0), (w 27 0), (w 28 0), (w 29 0)) ((U 13 3), (U 14 3), (U 15 3), (U 16 3), (U 104 3 0), (U 105 3 0), (U 106 3 0), (U 107 3 0), (U 108 3 0), (U 109 3 0))).1) 0) (((advF ((w 500 3 0), (w 501 3 0), (w 502 3 0), (w 30 3), (w 32 3), (w 33 3), (w 34 3), (w 35 3), (w 36 3)) ((w 420 0 0), (w 421 0 0), (w 27 0), (w 28 0), (w 29 0)) ((U 13 3), (U 14 3), (U 15 3), (U 16 3), (U 104 3 0), (U 105 3 0), (U 106 3 0), (U 107 3 0), (U 108 3 0), (U 109 3 0))).1) ((w 500 3 0)).toNatClampNeg)) (by simp (decide := true) only [wB_o, wB_i, wS_s, wS_t, wS_a, ne_eq, Nat.reduceEqDiff, not_false_eq_true]) ?_
        have hL42 : ∀ (v : Int32) (U2 : Wi), (v = agF (w 21 0) (w 22 0) (w 23 0) (w 267 0 0).toNatClampNeg t off ((advF ((w 500 3 0), (w 501 3 0), (w 502 3 0), (w 30 3), (w 32 3), (w 33 3), (w 34 3), (w 35 3), (w 36 3)) ((w 420 0 0), (w 421 0 0), (w 27 0), (w 28 0), (w 29 0)) S).1 0) ((advF ((w 500 3 0), (w 501 3 0), (w 502 3 0), (w 30 3), (w 32 3), (w 33 3), (w 34 3), (w 35 3), (w 36 3)) ((w 420 0 0), (w 421 0 0), (w 27 0), (w 28 0), (w 29 0)) S).1 (w 500 3 0).toNatClampNeg) ∧ AE (tA U2 3) (advF ((w 500 3 0), (w 501 3 0), (w 502 3 0), (w 30 3), (w 32 3), (w 33 3), (w 34 3), (w 35 3), (w 36 3)) ((w 420 0 0), (w 421 0 0), (w 27 0), (w 28 0), (w 29 0)) S)) → V K E A 4 (QI K E A (P_X2_doesFit w z off hot)) 42 [(3, .int t), (0, .ref (E.ad 2 0)), (1, .int off), (2, .int hot)] [.int v] (wB w SC8 U2) z := by
          intro v U2 hinv
          obtain ⟨ev, gB⟩ := hinv
          refine v_if_ne C 47 dX2_doesFit_42 (by decide) (fun c_42 => ?_) (fun c_42 => ?_)
          · refine v_iinc (v := t + 1) (lv2 := [(3, .int (t + 1)), (0, .ref (E.ad 2 0)), (1, .int off), (2, .int hot)]) C 0 dX2_doesFit_47 rfl rfl (by decide) rfl ?_
            refine v_goto C 13 dX2_doesFit_50 (by decide) ?_
            refine v_w (kp_e (S := SC8) (w := w) (kp_B (by decide) kp_r)) ?_
            exact ih_13 (t + 1) _ (by clear C ih_13; exact Nat.lt_of_lt_of_le (m_up (by clear g3 gA; grind) (by clear g3 gA; grind)) (Nat.le_of_lt_succ hm_)) (by clear C ih_13; refine ⟨by clear g3 gA; grind, by clear g3 gA; grind, _, gB, ?_⟩; rw [← g3, m_dnn (i := t) (N := (w 268 0 0) + 1) (by clear g3 gA; grind) (by clear g3 gA; grind)]; simp only [fitR]; rw [if_neg (by rw [← ev]; assumption)])
          · refine v_iconst (v := 0) C dX2_doesFit_45 (by decide) ?_
            exact v_zret C dX2_doesFit_46 (by decide) ⟨_, (by clear C ih_13; simp only [fitV]; rw [← hH, ← g3, m_dnn (i := t) (N := (w 268 0 0) + 1) (by clear g3 gA; grind) (by clear g3 gA; grind)]; simp only [fitR]; rw [if_pos (by rw [← ev]; assumption)]; rfl), (congr (congrArg Prod.mk (kp_e (kp_B (by decide) kp_r))) rfl)⟩
        refine v_w (kp_e (S := SC8) (w := w) (kp_S (by decide) (kp_S (by decide) (kp_S (by decide) (kp_S (by decide) (kp_S (by decide) (kp_S (by decide) (kp_S (by decide) (kp_B (by decide) kp_r))))))))) ?_
        exact hL42 (agF (w 21 0) (w 22 0) (w 23 0) ((w 267 0 0)).toNatClampNeg t off (((advF ((w 500 3 0), (w 501 3 0), (w 502 3 0), (w 30 3), (w 32 3), (w 33 3), (w 34 3), (w 35 3), (w 36 3)) ((w 420 0 0), (w 421 0 0), (w 27 0), (w 28 0), (w 29 0)) ((U 13 3), (U 14 3), (U 15 3), (U 16 3), (U 104 3 0), (U 105 3 0), (U 106 3 0), (U 107 3 0), (U 108 3 0), (U 109 3 0))).1) 0) (((advF ((w 500 3 0), (w 501 3 0), (w 502 3 0), (w 30 3), (w 32 3), (w 33 3), (w 34 3), (w 35 3), (w 36 3)) ((w 420 0 0), (w 421 0 0), (w 27 0), (w 28 0), (w 29 0)) ((U 13 3), (U 14 3), (U 15 3), (U 16 3), (U 104 3 0), (U 105 3 0), (U 106 3 0), (U 107 3 0), (U 108 3 0), (U 109 3 0))).1) ((w 500 3 0)).toNatClampNeg)) _ (by clear C ih_13 hL42; have q := adv_ae (R := ((w 500 3 0), (w 501 3 0), (w 502 3 0), (w 30 3), (w 32 3), (w 33 3), (w 34 3), (w 35 3), (w 36 3))) (L := ((w 420 0 0), (w 421 0 0), (w 27 0), (w 28 0), (w 29 0))) h1 h2 gA; simp (decide := true) only [tA, wB_o, wB_i, wS_s, wS_t, wS_a, ne_eq, Nat.reduceEqDiff, not_false_eq_true]; refine ⟨?_, q⟩; have q1 := q.1 0 (by omega); have q2 := q.1 _ h8; dsimp only at q1 q2; rw [← q1, ← q2])
  refine v_w (kp_e (S := SC8) (w := w) (kp_S (by decide) (kp_S (by decide) (kp_S (by decide) (kp_S (by decide) (kp_S (by decide) (kp_S (by decide) (kp_S (by decide) (kp_S (by decide) (kp_S (by decide) kp_r)))))))))) ?_
  exact hL13 _ 1 _ (Nat.lt_succ_self _) (by clear C hL13; refine ⟨by decide, by grind, st0 (w 501 3 0), by simp (decide := true) only [tA, wB_o, wB_i, wS_s, wS_t, wS_a, ne_eq, Nat.reduceEqDiff, not_false_eq_true]; exact st0_ae _ _ _ _ _ _ _, by rw [show (w 268 0 0) + 1 - 1 = (w 268 0 0) by grind]; exact hH.symm⟩)
