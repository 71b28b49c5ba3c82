abbrev P_X10_mostCut (w : Wi) (z : Wj) (sp : Int32) : Int32 → WW → Prop := fun r_ u_ => ∃ (uh_ : Wi), r_ = (cutF sp ((w 500 0 0), (w 501 0 0), (w 502 0 0), (w 30 0), (w 32 0), (w 33 0), (w 34 0), (w 35 0), (w 36 0)) (w 31 0) ((w 420 0 0), (w 421 0 0), (w 27 0), (w 28 0), (w 29 0)) (w 911 0 0) (w 912 0 0) (w 913 0 0) (bkR (w 32 0) (w 40 0) ((w 500 0 0) + 1).toNatClampNeg)) ∧ u_ = ((wB w SC6 uh_), z)
set_option maxHeartbeats 4000000 in
set_option maxRecDepth 100000 in
theorem c_X10_mostCut (E : En) (hE : q_ok E) (w : Wi) (z : Wj) (sp : Int32) (h1 : 0 ≤ (w 500 0 0)) (h2 : (w 500 0 0) ≤ 10) : CtI M_X10_mostCut E [.ref (E.ad 10 0), .int sp] w z (P_X10_mostCut w z sp) := by
  refine ctI_of (lv := [(0, .ref (E.ad 10 0)), (1, .int sp)]) hE m_X10_mostCut (Nat.le_of_ble_eq_true rfl) rfl ?_
  intro K A C0
  have C : Cx K E A cX10_mostCut 4 RX10 (some .int) { frames := 6, cells := 0, slots := 0, locals := 146 } := C0
  clear C0
  refine v_aload_n C 0 dX10_mostCut_0 rfl ?_
  refine v_vI C 10 0 [] 0 (c_X10_findBraked E hE _ _    (by clear C; assumption) (by clear C; assumption)) m_X10_findBraked x_980 x_982 x_21 p_X10_findBraked rfl ⟨Nat.le_of_ble_eq_true rfl, Nat.le_of_ble_eq_true rfl⟩ (C_m C (u_10 0 (by decide))) k_10 rfl (Nat.le_of_ble_eq_true rfl) dX10_mostCut_1 (fun r1 u1 v1 hp1 => ?_)
  obtain ⟨hr1, hu1⟩ := hp1
  subst hr1
  cases hu1
  have hL4 : ∀ (n : Int32) (B : Row), (bkR (w 32 0) (w 40 0) ((w 500 0 0) + 1).toNatClampNeg = (B, n)) → V K E A 4 (QI K E A (P_X10_mostCut w z sp)) 4 [(0, .ref (E.ad 10 0)), (1, .int sp)] [.int n] (wS w 40 0 B) z := by
    intro n B hinv
    have eb := hinv
    obtain ⟨b1, b2, b3⟩ := bkR_q h1 h2 eb
    obtain ⟨F, hF⟩ : ∃ F : Nat → Int32, F = cutE (cutG sp ((w 500 0 0), (w 501 0 0), (w 502 0 0), (w 30 0), (w 32 0), (w 33 0), (w 34 0), (w 35 0), (w 36 0)) (w 31 0) ((w 420 0 0), (w 421 0 0), (w 27 0), (w 28 0), (w 29 0)) (w 911 0 0) (w 912 0 0) (w 913 0 0) B n) n := ⟨_, rfl⟩
    refine v_istore_n (lv2 := [(2, .int n), (0, .ref (E.ad 10 0)), (1, .int sp)]) C dX10_mostCut_4 rfl (by decide) rfl ?_
    refine v_aload_n C 1 dX10_mostCut_5 rfl ?_
    refine v_gR C 10 0 2 5 2 (C_m C (u_10 0 (by decide))) k_10 (by decide) x_359 (fun _ _ _ => rfl) dX10_mostCut_6 ?_
    refine v_aload_n C 1 dX10_mostCut_9 rfl ?_
    refine v_gR C 10 0 0 5 0 (C_m C (u_10 0 (by decide))) k_10 (by decide) x_357 (fun _ _ _ => rfl) dX10_mostCut_10 ?_
    refine v_vV C 5 2 [.ref (E.ad 5 0)] 1 (c_X5_copyFrom E hE _ _ 2 (by decide) 0 (by decide)  (by decide) (by clear C; (try simp only [wS_s, wS_t, wS_a, ne_eq, Nat.reduceEqDiff, not_false_eq_true]); grind) (by clear C; (try simp only [wS_s, wS_t, wS_a, ne_eq, Nat.reduceEqDiff, not_false_eq_true]); grind)) m_X5_copyFrom x_936 x_722 x_723 p_X5_copyFrom rfl ⟨Nat.le_of_ble_eq_true rfl, Nat.le_of_ble_eq_true rfl⟩ (C_m C (u_5 2 (by decide))) k_5 rfl (Nat.le_of_ble_eq_true rfl) dX10_mostCut_13 (fun u2 v2 hp2 => ?_)
    have hu2 := hp2
    cases hu2
    refine v_w (w2 := (wS (wS (wS (wS (wS (wS (wS (wS (wS (wS (wS w 30 2 (cpR (w 30 2) (w 30 0) ((w 500 0 0) + 1).toNatClampNeg)) 31 2 (cpR (w 31 2) (w 31 0) ((w 500 0 0) + 1).toNatClampNeg)) 32 2 (cpR (w 32 2) (w 32 0) ((w 500 0 0) + 1).toNatClampNeg)) 33 2 (cpR (w 33 2) (w 33 0) ((w 500 0 0) + 1).toNatClampNeg)) 34 2 (cpR (w 34 2) (w 34 0) ((w 500 0 0) + 1).toNatClampNeg)) 35 2 (cpR (w 35 2) (w 35 0) ((w 500 0 0) + 1).toNatClampNeg)) 36 2 (cpR (w 36 2) (w 36 0) ((w 500 0 0) + 1).toNatClampNeg)) 40 0 B) 500 2 (fun _ => (w 500 0 0))) 501 2 (fun _ => (w 501 0 0))) 502 2 (fun _ => (w 502 0 0)))) (by simp only [wS_s, wS_t, wS_a, ne_eq, Nat.reduceEqDiff, not_false_eq_true, wS_wS, wS_p, wS_pp, Nat.reduceLT, id_eq]) ?_
    refine v_iload_n C 0 dX10_mostCut_16 rfl ?_
    refine v_istore_n (lv2 := [(3, .int n), (2, .int n), (0, .ref (E.ad 10 0)), (1, .int sp)]) C dX10_mostCut_17 rfl (by decide) rfl ?_
    have hL18 : ∀ (n_ : Nat) (k : Int32) (U : Wi), (k + 1).toNatClampNeg < n_ → ((-1) ≤ k ∧ k ≤ n ∧ ((U 500 2 0 = (w 500 0 0) ∧ U 501 2 0 = (w 501 0 0) ∧ U 502 2 0 = (w 502 0 0)) ∧ re (w 500 0 0) (U 30 2) (w 30 0) ∧ re (w 500 0 0) (U 31 2) (w 31 0) ∧ re (w 500 0 0) (U 33 2) (w 33 0) ∧ re (w 500 0 0) (U 34 2) (w 34 0) ∧ re (w 500 0 0) (U 35 2) (w 35 0) ∧ re (w 500 0 0) (U 36 2) (w 36 0) ∧ CK (w 500 0 0) n B (w 32 0) (U 32 2) ∧ U 40 0 = B) ∧ lsR F (k + 1).toNatClampNeg = lsR F (n + 1).toNatClampNeg) → V K E A 4 (QI K E A (P_X10_mostCut w z sp)) 18 [(3, .int k), (2, .int n), (0, .ref (E.ad 10 0)), (1, .int sp)] [] (wB w SC6 U) z := by
      intro n_
      induction n_ with
      | zero => intro k U hm_; exact absurd hm_ (Nat.not_lt_zero _)
      | succ n_ ih_18 =>
        intro k U hm_ hinv
        obtain ⟨g1, g2, ⟨⟨k1, k2, k3⟩, e30, e31, e33, e34, e35, e36, gc, gb⟩, g3⟩ := hinv
        refine v_iload_n C 0 dX10_mostCut_18 rfl ?_
        refine v_if_lt C 40 dX10_mostCut_19 (by decide) (fun c_19 => ?_) (fun c_19 => ?_)
        · refine v_iconst (v := (-1)) C dX10_mostCut_40 (by decide) ?_
          exact v_iret C dX10_mostCut_41 ⟨_, (by clear C ih_18; simp only [cutF, eb]; rw [← hF, ← g3, show k + 1 = 0 by clear g3; grind]; rfl), (congr (congrArg Prod.mk (kp_e (kp_B (by decide) kp_r))) rfl)⟩
        · refine v_aload_n C 2 dX10_mostCut_22 rfl ?_
          refine v_iload_n C 0 dX10_mostCut_23 rfl ?_
          refine v_iload_n C 1 dX10_mostCut_24 rfl ?_
          refine v_iload_n C 3 dX10_mostCut_25 rfl ?_
          refine v_vI C 10 0 [.int k, .int n, .int sp] 3 (c_X10_stopsWithout E hE _ _  k n sp  (by clear C ih_18; (try simp (decide := true) only [wB_o, wB_i, wS_s, wS_t, wS_a, ne_eq, Nat.reduceEqDiff, not_false_eq_true]); rw [k1]; exact h1) (by clear C ih_18; (try simp (decide := true) only [wB_o, wB_i, wS_s, wS_t, wS_a, ne_eq, Nat.reduceEqDiff, not_false_eq_true]); rw [k1]; grind) (by clear C ih_18; (try simp (decide := true) only [wB_o, wB_i, wS_s, wS_t, wS_a, ne_eq, Nat.reduceEqDiff, not_false_eq_true]); exact b1) (by clear C ih_18; (try simp (decide := true) only [wB_o, wB_i, wS_s, wS_t, wS_a, ne_eq, Nat.reduceEqDiff, not_false_eq_true]); grind) (by clear C ih_18; (try simp (decide := true) only [wB_o, wB_i, wS_s, wS_t, wS_a, ne_eq, Nat.reduceEqDiff, not_false_eq_true]); rw [gb, k1]; exact b3)) m_X10_stopsWithout x_984 x_986 x_22 p_X10_stopsWithout rfl ⟨Nat.le_of_ble_eq_true rfl, Nat.le_of_ble_eq_true rfl⟩ (C_m C (u_10 0 (by decide))) k_10 rfl (Nat.le_of_ble_eq_true rfl) dX10_mostCut_26 (fun r3 u3 v3 hp3 => ?_)
          obtain ⟨uh3, hr3, hu3, hf3⟩ := hp3
          subst hr3
          cases hu3
          try simp (decide := true) only [wB_o, wB_i, wS_s, wS_t, wS_a, ne_eq, Nat.reduceEqDiff, not_false_eq_true] at hf3
          refine v_i (y := swR (fun s => runV sp ((U 500 2 0), (U 501 2 0), (U 502 2 0), (U 30 2), (setOut (U 32 2) (U 40 0) s (n).toNatClampNeg), (U 33 2), (U 34 2), (U 35 2), (U 36 2)) (U 31 2) ((w 420 0 0), (w 421 0 0), (w 27 0), (w 28 0), (w 29 0)) (w 911 0 0) (w 912 0 0) (w 913 0 0)) k ((1 : Int32) <<< (n &&& 31)).toNatClampNeg 0) (by simp (decide := true) only [wB_o, wB_i, wS_s, wS_t, wS_a, ne_eq, Nat.reduceEqDiff, not_false_eq_true]) ?_
          refine v_w (w2 := (wB (wB w SC6 U) SC5 uh3)) (by simp (decide := true) only [wB_o, wB_i, wS_s, wS_t, wS_a, ne_eq, Nat.reduceEqDiff, not_false_eq_true, wS_wS, wS_p, wS_pp, Nat.reduceLT, id_eq]) ?_
          have hL29 : ∀ (v : Int32) (U2 : Wi), (((U2 500 2 0 = (w 500 0 0) ∧ U2 501 2 0 = (w 501 0 0) ∧ U2 502 2 0 = (w 502 0 0)) ∧ re (w 500 0 0) (U2 30 2) (w 30 0) ∧ re (w 500 0 0) (U2 31 2) (w 31 0) ∧ re (w 500 0 0) (U2 33 2) (w 33 0) ∧ re (w 500 0 0) (U2 34 2) (w 34 0) ∧ re (w 500 0 0) (U2 35 2) (w 35 0) ∧ re (w 500 0 0) (U2 36 2) (w 36 0) ∧ CK (w 500 0 0) n B (w 32 0) (U2 32 2) ∧ U2 40 0 = B) ∧ v = F k.toNatClampNeg) → V K E A 4 (QI K E A (P_X10_mostCut w z sp)) 29 [(3, .int k), (2, .int n), (0, .ref (E.ad 10 0)), (1, .int sp)] [.int v] (wB w SC6 U2) z := by
            intro v U2 hinv
            obtain ⟨⟨⟨k1, k2, k3⟩, e30, e31, e33, e34, e35, e36, gc, gb⟩, ev⟩ := hinv
            refine v_if_eq C 34 dX10_mostCut_29 (by decide) (fun c_29 => ?_) (fun c_29 => ?_)
            · refine v_iinc (v := k + (-1)) (lv2 := [(3, .int (k + (-1))), (2, .int n), (0, .ref (E.ad 10 0)), (1, .int sp)]) C 0 dX10_mostCut_34 rfl rfl (by decide) rfl ?_
              refine v_goto C 18 dX10_mostCut_37 (by decide) ?_
              refine v_w (kp_e (S := SC6) (w := w) (kp_B (by decide) kp_r)) ?_
              exact ih_18 (k + (-1)) _ (by clear C ih_18; rcases m_dn (i := k) (by grind) with q | q; exact Nat.lt_of_lt_of_le q (Nat.le_of_lt_succ hm_); exact absurd q (by grind)) (by clear C ih_18; refine ⟨by clear g3; grind, by clear g3; grind, ⟨⟨k1, k2, k3⟩, e30, e31, e33, e34, e35, e36, gc, gb⟩, ?_⟩; rw [← g3, show k + (-1) + 1 = k by grind, cl_succ (by clear g3; grind) (by clear g3; grind)]; simp only [lsR]; rw [if_neg (not_not_intro (by rw [← ev]; assumption))])
            · refine v_iload_n C 0 dX10_mostCut_32 rfl ?_
              exact v_iret C dX10_mostCut_33 ⟨_, (by clear C ih_18; simp only [cutF, eb]; rw [← hF, ← g3, cl_succ (by clear g3; grind) (by clear g3; grind)]; simp only [lsR]; rw [if_pos (by rw [← ev]; assumption), nI_cl (by clear g3; grind)]), (congr (congrArg Prod.mk (kp_e (kp_B (by decide) kp_r))) rfl)⟩
          refine v_w (kp_e (S := SC6) (w := w) (kp_B (by decide) (kp_B (by decide) kp_r))) ?_
          exact hL29 (swR (fun s => runV sp ((U 500 2 0), (U 501 2 0), (U 502 2 0), (U 30 2), (setOut (U 32 2) (U 40 0) s (n).toNatClampNeg), (U 33 2), (U 34 2), (U 35 2), (U 36 2)) (U 31 2) ((w 420 0 0), (w 421 0 0), (w 27 0), (w 28 0), (w 29 0)) (w 911 0 0) (w 912 0 0) (w 913 0 0)) k ((1 : Int32) <<< (n &&& 31)).toNatClampNeg 0) _ (by clear C ih_18 hL29; refine ⟨⟨⟨by simp (decide := true) only [wB_o, wB_i, wS_s, wS_t, wS_a, ne_eq, Nat.reduceEqDiff, not_false_eq_true]; exact k1, by simp (decide := true) only [wB_o, wB_i, wS_s, wS_t, wS_a, ne_eq, Nat.reduceEqDiff, not_false_eq_true]; exact k2, by simp (decide := true) only [wB_o, wB_i, wS_s, wS_t, wS_a, ne_eq, Nat.reduceEqDiff, not_false_eq_true]; exact k3⟩, by simp (decide := true) only [wB_o, wB_i, wS_s, wS_t, wS_a, ne_eq, Nat.reduceEqDiff, not_false_eq_true]; exact e30, by simp (decide := true) only [wB_o, wB_i, wS_s, wS_t, wS_a, ne_eq, Nat.reduceEqDiff, not_false_eq_true]; exact e31, by simp (decide := true) only [wB_o, wB_i, wS_s, wS_t, wS_a, ne_eq, Nat.reduceEqDiff, not_false_eq_true]; exact e33, by simp (decide := true) only [wB_o, wB_i, wS_s, wS_t, wS_a, ne_eq, Nat.reduceEqDiff, not_false_eq_true]; exact e34, by simp (decide := true) only [wB_o, wB_i, wS_s, wS_t, wS_a, ne_eq, Nat.reduceEqDiff, not_false_eq_true]; exact e35, by simp (decide := true) only [wB_o, wB_i, wS_s, wS_t, wS_a, ne_eq, Nat.reduceEqDiff, not_false_eq_true]; exact e36, ?_, by simp (decide := true) only [wB_o, wB_i, wS_s, wS_t, wS_a, ne_eq, Nat.reduceEqDiff, not_false_eq_true]; exact gb⟩, ?_⟩; (simp (decide := true) only [wB_o, wB_i, wS_s, wS_t, wS_a, ne_eq, Nat.reduceEqDiff, not_false_eq_true]; intro j q1 q2 q3; rw [hf3 j (by rw [gb]; exact q3)]; exact gc j q1 q2 q3); rw [hF, k1, k2, k3, gb]; simp only [cutE]; rw [nI_cl (by clear g3; grind)]; exact swR_c (cut_e e30 e31 e33 e34 e35 e36 gc) _ _ _)
    refine v_w (kp_e (S := SC6) (w := w) (kp_S (by decide) (kp_S (by decide) (kp_S (by decide) (kp_S (by decide) (kp_S (by decide) (kp_S (by decide) (kp_S (by decide) (kp_S (by decide) (kp_S (by decide) (kp_S (by decide) (kp_S (by decide) kp_r)))))))))))) ?_
    exact hL18 _ n _ (Nat.lt_succ_self _) (by clear C hL18; refine ⟨by grind, by grind, ⟨⟨by simp (decide := true) only [wB_o, wB_i, wS_s, wS_t, wS_a, ne_eq, Nat.reduceEqDiff, not_false_eq_true], by simp (decide := true) only [wB_o, wB_i, wS_s, wS_t, wS_a, ne_eq, Nat.reduceEqDiff, not_false_eq_true], by simp (decide := true) only [wB_o, wB_i, wS_s, wS_t, wS_a, ne_eq, Nat.reduceEqDiff, not_false_eq_true]⟩, by simp (decide := true) only [wB_o, wB_i, wS_s, wS_t, wS_a, ne_eq, Nat.reduceEqDiff, not_false_eq_true]; exact cpR_re1 _ _ _, by simp (decide := true) only [wB_o, wB_i, wS_s, wS_t, wS_a, ne_eq, Nat.reduceEqDiff, not_false_eq_true]; exact cpR_re1 _ _ _, by simp (decide := true) only [wB_o, wB_i, wS_s, wS_t, wS_a, ne_eq, Nat.reduceEqDiff, not_false_eq_true]; exact cpR_re1 _ _ _, by simp (decide := true) only [wB_o, wB_i, wS_s, wS_t, wS_a, ne_eq, Nat.reduceEqDiff, not_false_eq_true]; exact cpR_re1 _ _ _, by simp (decide := true) only [wB_o, wB_i, wS_s, wS_t, wS_a, ne_eq, Nat.reduceEqDiff, not_false_eq_true]; exact cpR_re1 _ _ _, by simp (decide := true) only [wB_o, wB_i, wS_s, wS_t, wS_a, ne_eq, Nat.reduceEqDiff, not_false_eq_true]; exact cpR_re1 _ _ _, by simp (decide := true) only [wB_o, wB_i, wS_s, wS_t, wS_a, ne_eq, Nat.reduceEqDiff, not_false_eq_true]; intro j q1 q2 _; exact cpR_re1 _ _ _ j q1 q2, by simp (decide := true) only [wB_o, wB_i, wS_s, wS_t, wS_a, ne_eq, Nat.reduceEqDiff, not_false_eq_true]⟩, rfl⟩)
  exact hL4 ((bkR (w 32 0) (w 40 0) ((w 500 0 0) + 1).toNatClampNeg).2) ((bkR (w 32 0) (w 40 0) ((w 500 0 0) + 1).toNatClampNeg).1) (by clear C hL4; rfl)
