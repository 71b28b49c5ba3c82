abbrev P_X12_day (w : Wi) (z : Wj) (hot : Int32) : Int32 → WW → Prop := fun r_ u_ => r_ = (if ((if (w 1062 0 0) < 1 ∨ 16 < (w 1062 0 0) then 0 else rowR (w 41 0) ((w 1062 0 0)).toNatClampNeg 0 0) = 0 ∨ (w 1129 0 0) = 40) then (-1) else (w 1129 0 0)) ∧ u_ = ((wS (wS (wS (wS w 67 0 (if ((if (w 1062 0 0) < 1 ∨ 16 < (w 1062 0 0) then 0 else rowR (w 41 0) ((w 1062 0 0)).toNatClampNeg 0 0) = 0 ∨ (w 1129 0 0) = 40) then (w 67 0) else upd (w 67 0) ((w 1129 0 0)).toNatClampNeg (vp_nar .boolean hot))) 1060 0 (fun _ => 0)) 1062 0 (fun _ => 0)) 1129 0 (fun _ => if ((if (w 1062 0 0) < 1 ∨ 16 < (w 1062 0 0) then 0 else rowR (w 41 0) ((w 1062 0 0)).toNatClampNeg 0 0) = 0 ∨ (w 1129 0 0) = 40) then (w 1129 0 0) else (w 1129 0 0) + 1)), (wS (wS z 65 0 (if ((if (w 1062 0 0) < 1 ∨ 16 < (w 1062 0 0) then 0 else rowR (w 41 0) ((w 1062 0 0)).toNatClampNeg 0 0) = 0 ∨ (w 1129 0 0) = 40) then (z 65 0) else vp_updL (z 65 0) ((w 1129 0 0)).toNatClampNeg (if (w 1062 0 0) < 1 ∨ 16 < (w 1062 0 0) then 0 else rowR (w 41 0) ((w 1062 0 0)).toNatClampNeg 0 0))) 66 0 (if ((if (w 1062 0 0) < 1 ∨ 16 < (w 1062 0 0) then 0 else rowR (w 41 0) ((w 1062 0 0)).toNatClampNeg 0 0) = 0 ∨ (w 1129 0 0) = 40) then (z 66 0) else vp_updL (z 66 0) ((w 1129 0 0)).toNatClampNeg 0)))
set_option maxHeartbeats 4000000 in
set_option maxRecDepth 100000 in
theorem c_X12_day (E : En) (hM : q_okM E) (w : Wi) (z : Wj) (hot : Int32) (h1 : 0 ≤ (w 1062 0 0)) (h2 : (w 1062 0 0) ≤ 740) (h3 : ∀ k, k < ((w 1062 0 0)).toNatClampNeg → 0 ≤ (w 41 0) k) (h4 : 0 ≤ (w 1129 0 0)) (h5 : (w 1129 0 0) ≤ 40) : CtI M_X12_day E [.ref (E.ad 12 0), .int hot] w z (P_X12_day w z hot) := by
  have hE := hM.1
  refine ctI_of (lv := [(0, .ref (E.ad 12 0)), (1, .int hot)]) hE m_X12_day (Nat.le_of_ble_eq_true rfl) rfl ?_
  intro K A C0
  have C : Cx K E A cX12_day 4 RX12 (some .int) { frames := 2, cells := 0, slots := 0, locals := 46 } := C0
  clear C0
  obtain ⟨RW, hRW⟩ : ∃ RW : Int64, RW = (if (w 1062 0 0) < 1 ∨ 16 < (w 1062 0 0) then 0 else rowR (w 41 0) ((w 1062 0 0)).toNatClampNeg 0 0) := ⟨_, rfl⟩
  refine v_aload_n C 0 dX12_day_0 rfl ?_
  refine v_iconst (v := 0) C dX12_day_1 (by decide) ?_
  refine v_pI C 12 0 0 1060 (hM.2 _ (u_12 0 (by decide))) k_12 ty_12 (by decide) rfl ⟨rfl, rfl⟩ x_1242 rfl rfl dX12_day_2 ?_
  refine v_aload_n C 0 dX12_day_5 rfl ?_
  refine v_vJ C 12 0 [] 0 (c_X12_wagons E hM _ _    (by clear C; (try simp only [wS_s, wS_t, wS_a, ne_eq, Nat.reduceEqDiff, not_false_eq_true, L7_1]); exact h1) (by clear C; (try simp only [wS_s, wS_t, wS_a, ne_eq, Nat.reduceEqDiff, not_false_eq_true, L7_1]); exact h2) (by clear C; (try simp only [wS_s, wS_t, wS_a, ne_eq, Nat.reduceEqDiff, not_false_eq_true, L7_1]); exact h3)) m_X12_wagons x_1715 x_1717 x_68 p_X12_wagons rfl ⟨Nat.le_of_ble_eq_true rfl, Nat.le_of_ble_eq_true rfl⟩ (hM.2 _ (u_12 0 (by decide))) k_12 rfl (Nat.le_of_ble_eq_true rfl) dX12_day_6 (fun r1 u1 v1 hp1 => ?_)
  obtain ⟨hr1, hu1⟩ := hp1
  subst hr1
  cases hu1
  refine v_j (y := (if (w 1062 0 0) < 1 ∨ 16 < (w 1062 0 0) then 0 else rowR (w 41 0) ((w 1062 0 0)).toNatClampNeg 0 0)) (by simp only [wS_s, wS_t, wS_a, ne_eq, Nat.reduceEqDiff, not_false_eq_true, L7_1]) ?_
  refine v_w (w2 := (wS (wS w 1060 0 (fun _ => 0)) 1062 0 (fun _ => 0))) (by simp only [wS_s, wS_t, wS_a, ne_eq, Nat.reduceEqDiff, not_false_eq_true, wS_wS, wS_p, wS_pp, Nat.reduceLT, id_eq, L7_1]) ?_
  have hL9 : ∀ (rw_ : Int64), (rw_ = RW) → V K E A 4 (QI K E A (P_X12_day w z hot)) 9 [(0, .ref (E.ad 12 0)), (1, .int hot)] [.long rw_] (wS (wS w 1060 0 (fun _ => 0)) 1062 0 (fun _ => 0)) z := by
    intro rw_ hinv
    have er := hinv
    rw [hRW] at er
    refine v_lstore_n (lv2 := [(2, .long rw_), (0, .ref (E.ad 12 0)), (1, .int hot)]) C dX12_day_9 rfl (by decide) rfl ?_
    refine v_lload_n C 0 dX12_day_10 rfl ?_
    refine v_lconst (v := 0) C dX12_day_11 (by decide) ?_
    refine v_lcmp C dX12_day_12 ?_
    refine v_if_eq C 25 dX12_day_13 (by decide) (fun c_13 => ?_) (fun c_13 => ?_)
    · rw [lg_cmp_eq] at c_13
      refine v_iconst (v := (-1)) C dX12_day_25 (by decide) ?_
      refine v_w (wS_id _ 67 0).symm ?_
      refine v_tS C 1129 0 (by decide) ?_
      refine v_z (wS_id _ 65 0).symm ?_
      refine v_z (wS_id _ 66 0).symm ?_
      refine v_z (z2 := (wS (wS z 65 0 (z 65 0)) 66 0 (z 66 0))) (by simp only [wS_s, wS_t, wS_a, ne_eq, Nat.reduceEqDiff, not_false_eq_true, wS_wS, wS_p, wS_pp, Nat.reduceLT, id_eq, L7_1]) ?_
      refine v_w (w2 := (wS (wS (wS (wS w 67 0 (w 67 0)) 1060 0 (fun _ => 0)) 1062 0 (fun _ => 0)) 1129 0 (fun _ => (w 1129 0 0)))) (by simp only [wS_s, wS_t, wS_a, ne_eq, Nat.reduceEqDiff, not_false_eq_true, wS_wS, wS_p, wS_pp, Nat.reduceLT, id_eq, L7_1]) ?_
      exact v_iret C dX12_day_26 ⟨(by clear C; first | rfl | (rw [← er]; first | (rw [if_pos (by clear h3 hRW er; grind)]; done) | (rw [if_neg (by clear h3 hRW er; grind)]; first | done | (clear h3 hRW er; grind)))), (congr (congrArg Prod.mk (wS_eq (wS_eq (wS_eq (wS_eq rfl (by clear C; first | rfl | (rw [← er]; first | (rw [if_pos (by clear h3 hRW er; grind)]; done) | (rw [if_neg (by clear h3 hRW er; grind)]; first | done | (clear h3 hRW er; grind))))) rfl) rfl) (fu_eq (by clear C; first | rfl | (rw [← er]; first | (rw [if_pos (by clear h3 hRW er; grind)]; done) | (rw [if_neg (by clear h3 hRW er; grind)]; first | done | (clear h3 hRW er; grind))))))) (wS_eq (wS_eq rfl (by clear C; first | rfl | (rw [← er]; first | (rw [if_pos (by clear h3 hRW er; grind)]; done) | (rw [if_neg (by clear h3 hRW er; grind)]; first | done | (clear h3 hRW er; grind))))) (by clear C; first | rfl | (rw [← er]; first | (rw [if_pos (by clear h3 hRW er; grind)]; done) | (rw [if_neg (by clear h3 hRW er; grind)]; first | done | (clear h3 hRW er; grind))))))⟩
    · rw [lg_cmp_eq] at c_13
      refine v_aload_n C 1 dX12_day_16 rfl ?_
      refine v_gI C 12 0 69 1129 (w 1129 0 0) (hM.2 _ (u_12 0 (by decide))) k_12 (by decide) rfl rfl x_1311 (by simp only [wS_s, wS_t, wS_a, ne_eq, Nat.reduceEqDiff, not_false_eq_true, L7_1]) dX12_day_17 ?_
      refine v_bipush (v := 40) C dX12_day_20 (by decide) ?_
      refine v_ic_ne C 27 dX12_day_22 (by decide) (fun c_22 => ?_) (fun c_22 => ?_)
      · refine v_aload_n C 1 dX12_day_27 rfl ?_
        refine v_gR C 12 0 66 65 0 (hM.2 _ (u_12 0 (by decide))) k_12 (by decide) x_1308 (fun _ _ _ => rfl) dX12_day_28 ?_
        refine v_aload_n C 1 dX12_day_31 rfl ?_
        refine v_gI C 12 0 69 1129 (w 1129 0 0) (hM.2 _ (u_12 0 (by decide))) k_12 (by decide) rfl rfl x_1311 (by simp only [wS_s, wS_t, wS_a, ne_eq, Nat.reduceEqDiff, not_false_eq_true, L7_1]) dX12_day_32 ?_
        refine v_lload_n C 0 dX12_day_35 rfl ?_
        refine v_last C 65 0 (hM.2 _ (u_65 0 (by decide))) ⟨by decide, rfl, rfl⟩ (by exact v_in (N := 40) (by decide) (by clear h3 er hRW; grind) (by clear h3 er hRW; grind)) dX12_day_36 ?_
        refine v_aload_n C 1 dX12_day_37 rfl ?_
        refine v_gR C 12 0 68 67 0 (hM.2 _ (u_12 0 (by decide))) k_12 (by decide) x_1310 (fun _ _ _ => rfl) dX12_day_38 ?_
        refine v_aload_n C 1 dX12_day_41 rfl ?_
        refine v_gI C 12 0 69 1129 (w 1129 0 0) (hM.2 _ (u_12 0 (by decide))) k_12 (by decide) rfl rfl x_1311 (by simp only [wS_s, wS_t, wS_a, ne_eq, Nat.reduceEqDiff, not_false_eq_true, L7_1]) dX12_day_42 ?_
        refine v_iload_n C 2 dX12_day_45 rfl ?_
        refine v_zast C 67 0 (hM.2 _ (u_67 0 (by decide))) ⟨by decide, rfl, rfl⟩ (by exact v_in (N := 40) (by decide) (by clear h3 er hRW; grind) (by clear h3 er hRW; grind)) dX12_day_46 ?_
        refine v_aload_n C 1 dX12_day_47 rfl ?_
        refine v_gR C 12 0 67 66 0 (hM.2 _ (u_12 0 (by decide))) k_12 (by decide) x_1309 (fun _ _ _ => rfl) dX12_day_48 ?_
        refine v_aload_n C 1 dX12_day_51 rfl ?_
        refine v_gI C 12 0 69 1129 (w 1129 0 0) (hM.2 _ (u_12 0 (by decide))) k_12 (by decide) rfl rfl x_1311 (by simp only [wS_s, wS_t, wS_a, ne_eq, Nat.reduceEqDiff, not_false_eq_true, L7_1]) dX12_day_52 ?_
        refine v_lconst (v := 0) C dX12_day_55 (by decide) ?_
        refine v_last C 66 0 (hM.2 _ (u_66 0 (by decide))) ⟨by decide, rfl, rfl⟩ (by exact v_in (N := 40) (by decide) (by clear h3 er hRW; grind) (by clear h3 er hRW; grind)) dX12_day_56 ?_
        refine v_z (z2 := (wS (wS z 65 0 (vp_updL (z 65 0) (w 1129 0 0).toNatClampNeg rw_)) 66 0 (vp_updL (z 66 0) (w 1129 0 0).toNatClampNeg 0))) (by simp only [wS_s, wS_t, wS_a, ne_eq, Nat.reduceEqDiff, not_false_eq_true, wS_wS, wS_p, wS_pp, Nat.reduceLT, id_eq, L7_1]) ?_
        refine v_aload_n C 1 dX12_day_57 rfl ?_
        refine v_dup C dX12_day_58 rfl ?_
        refine v_gI C 12 0 69 1129 (w 1129 0 0) (hM.2 _ (u_12 0 (by decide))) k_12 (by decide) rfl rfl x_1311 (by simp only [wS_s, wS_t, wS_a, ne_eq, Nat.reduceEqDiff, not_false_eq_true, L7_1]) dX12_day_59 ?_
        refine v_iconst (v := 1) C dX12_day_62 (by decide) ?_
        refine v_iadd C dX12_day_63 ?_
        refine v_pI C 12 0 69 1129 (hM.2 _ (u_12 0 (by decide))) k_12 ty_12 (by decide) rfl ⟨rfl, rfl⟩ x_1311 rfl rfl dX12_day_64 ?_
        refine v_aload_n C 1 dX12_day_67 rfl ?_
        refine v_gI C 12 0 69 1129 ((w 1129 0 0) + 1) (hM.2 _ (u_12 0 (by decide))) k_12 (by decide) rfl rfl x_1311 (by simp only [wS_s, wS_t, wS_a, ne_eq, Nat.reduceEqDiff, not_false_eq_true, L7_1]) dX12_day_68 ?_
        refine v_iconst (v := 1) C dX12_day_71 (by decide) ?_
        refine v_isub C dX12_day_72 ?_
        refine v_w (w2 := (wS (wS (wS (wS w 67 0 (upd (w 67 0) (w 1129 0 0).toNatClampNeg (vp_nar .boolean hot))) 1060 0 (fun _ => 0)) 1062 0 (fun _ => 0)) 1129 0 (fun _ => ((w 1129 0 0) + 1)))) (by simp only [wS_s, wS_t, wS_a, ne_eq, Nat.reduceEqDiff, not_false_eq_true, wS_wS, wS_p, wS_pp, Nat.reduceLT, id_eq, L7_1]) ?_
        exact v_iret C dX12_day_73 ⟨(by clear C; first | rfl | (rw [← er]; first | (rw [if_pos (by clear h3 hRW er; grind)]; done) | (rw [if_neg (by clear h3 hRW er; grind)]; first | done | (clear h3 hRW er; grind)))), (congr (congrArg Prod.mk (wS_eq (wS_eq (wS_eq (wS_eq rfl (by clear C; first | rfl | (rw [← er]; first | (rw [if_pos (by clear h3 hRW er; grind)]; done) | (rw [if_neg (by clear h3 hRW er; grind)]; first | done | (clear h3 hRW er; grind))))) rfl) rfl) (fu_eq (by clear C; first | rfl | (rw [← er]; first | (rw [if_pos (by clear h3 hRW er; grind)]; done) | (rw [if_neg (by clear h3 hRW er; grind)]; first | done | (clear h3 hRW er; grind))))))) (wS_eq (wS_eq rfl (by clear C; first | rfl | (rw [← er]; first | (rw [if_pos (by clear h3 hRW er; grind)]; done) | (rw [if_neg (by clear h3 hRW er; grind)]; first | done | (clear h3 hRW er; grind))))) (by clear C; first | rfl | (rw [← er]; first | (rw [if_pos (by clear h3 hRW er; grind)]; done) | (rw [if_neg (by clear h3 hRW er; grind)]; first | done | (clear h3 hRW er; grind))))))⟩
      · refine v_iconst (v := (-1)) C dX12_day_25 (by decide) ?_
        refine v_w (wS_id _ 67 0).symm ?_
        refine v_tS C 1129 0 (by decide) ?_
        refine v_z (wS_id _ 65 0).symm ?_
        refine v_z (wS_id _ 66 0).symm ?_
        refine v_z (z2 := (wS (wS z 65 0 (z 65 0)) 66 0 (z 66 0))) (by simp only [wS_s, wS_t, wS_a, ne_eq, Nat.reduceEqDiff, not_false_eq_true, wS_wS, wS_p, wS_pp, Nat.reduceLT, id_eq, L7_1]) ?_
        refine v_w (w2 := (wS (wS (wS (wS w 67 0 (w 67 0)) 1060 0 (fun _ => 0)) 1062 0 (fun _ => 0)) 1129 0 (fun _ => (w 1129 0 0)))) (by simp only [wS_s, wS_t, wS_a, ne_eq, Nat.reduceEqDiff, not_false_eq_true, wS_wS, wS_p, wS_pp, Nat.reduceLT, id_eq, L7_1]) ?_
        exact v_iret C dX12_day_26 ⟨(by clear C; first | rfl | (rw [← er]; first | (rw [if_pos (by clear h3 hRW er; grind)]; done) | (rw [if_neg (by clear h3 hRW er; grind)]; first | done | (clear h3 hRW er; grind)))), (congr (congrArg Prod.mk (wS_eq (wS_eq (wS_eq (wS_eq rfl (by clear C; first | rfl | (rw [← er]; first | (rw [if_pos (by clear h3 hRW er; grind)]; done) | (rw [if_neg (by clear h3 hRW er; grind)]; first | done | (clear h3 hRW er; grind))))) rfl) rfl) (fu_eq (by clear C; first | rfl | (rw [← er]; first | (rw [if_pos (by clear h3 hRW er; grind)]; done) | (rw [if_neg (by clear h3 hRW er; grind)]; first | done | (clear h3 hRW er; grind))))))) (wS_eq (wS_eq rfl (by clear C; first | rfl | (rw [← er]; first | (rw [if_pos (by clear h3 hRW er; grind)]; done) | (rw [if_neg (by clear h3 hRW er; grind)]; first | done | (clear h3 hRW er; grind))))) (by clear C; first | rfl | (rw [← er]; first | (rw [if_pos (by clear h3 hRW er; grind)]; done) | (rw [if_neg (by clear h3 hRW er; grind)]; first | done | (clear h3 hRW er; grind))))))⟩
  exact hL9 (if (w 1062 0 0) < 1 ∨ 16 < (w 1062 0 0) then 0 else rowR (w 41 0) ((w 1062 0 0)).toNatClampNeg 0 0) (by clear C hL9; rw [hRW])
abbrev P_X12_mended (w : Wi) (z : Wj) (wg : Int32) : Int32 → WW → Prop := fun r_ u_ => r_ = (if ((0 ≤ wg ∧ wg ≤ 39) ∧ ¬ (w 1129 0 0) = 0) then 1 else 0) ∧ u_ = ((wS w 1060 0 (fun _ => 0)), (wS z 66 0 (if ((0 ≤ wg ∧ wg ≤ 39) ∧ ¬ (w 1129 0 0) = 0) then vp_updL (z 66 0) ((w 1129 0 0) - 1).toNatClampNeg ((z 66 0) ((w 1129 0 0) - 1).toNatClampNeg ||| (1 : Int64) <<< ((wg).toInt64 &&& 63)) else (z 66 0))))
set_option maxHeartbeats 4000000 in
set_option maxRecDepth 100000 in
theorem c_X12_mended (E : En) (hM : q_okM E) (w : Wi) (z : Wj) (wg : Int32) (h4 : 0 ≤ (w 1129 0 0)) (h5 : (w 1129 0 0) ≤ 40) : CtI M_X12_mended E [.ref (E.ad 12 0), .int wg] w z (P_X12_mended w z wg) := by
  have hE := hM.1
  refine ctI_of (lv := [(0, .ref (E.ad 12 0)), (1, .int wg)]) hE m_X12_mended (Nat.le_of_ble_eq_true rfl) rfl ?_
  intro K A C0
  have C : Cx K E A cX12_mended 2 RX12 (some .boolean) { frames := 1, cells := 0, slots := 0, locals := 22 } := C0
  clear C0
  refine v_aload_n C 0 dX12_mended_0 rfl ?_
  refine v_iconst (v := 0) C dX12_mended_1 (by decide) ?_
  refine v_pI C 12 0 0 1060 (hM.2 _ (u_12 0 (by decide))) k_12 ty_12 (by decide) rfl ⟨rfl, rfl⟩ x_1242 rfl rfl dX12_mended_2 ?_
  refine v_iload_n C 1 dX12_mended_5 rfl ?_
  refine v_iconst (v := 0) C dX12_mended_6 (by decide) ?_
  refine v_bipush (v := 39) C dX12_mended_7 (by decide) ?_
  refine v_sI C [.int wg, .int 0, .int 39] 3 (c_X12_isIn E hM _ _  wg 0 39  ) m_X12_isIn x_1530 x_1531 p_X12_isIn rfl ⟨Nat.le_of_ble_eq_true rfl, Nat.le_of_ble_eq_true rfl⟩ rfl (Nat.le_of_ble_eq_true rfl) dX12_mended_9 (fun r1 u1 v1 hp1 => ?_)
  obtain ⟨hr1, hu1⟩ := hp1
  subst hr1
  cases hu1
  refine v_if_eq C 22 dX12_mended_12 (by decide) (fun c_12 => ?_) (fun c_12 => ?_)
  · refine v_iconst (v := 0) C dX12_mended_22 (by decide) ?_
    refine v_z (wS_id _ 66 0).symm ?_
    exact v_zret C dX12_mended_23 (by decide) ⟨(by clear C; first | rfl | (rw [if_pos (by grind)]) | (rw [if_neg (by grind)])), (congr (congrArg Prod.mk rfl) (wS_eq rfl (by clear C; first | rfl | (rw [if_pos (by grind)]) | (rw [if_neg (by grind)]))))⟩
  · refine v_aload_n C 0 dX12_mended_15 rfl ?_
    refine v_gI C 12 0 69 1129 (w 1129 0 0) (hM.2 _ (u_12 0 (by decide))) k_12 (by decide) rfl rfl x_1311 (by simp only [wS_s, wS_t, wS_a, ne_eq, Nat.reduceEqDiff, not_false_eq_true, L7_1]) dX12_mended_16 ?_
    refine v_if_ne C 24 dX12_mended_19 (by decide) (fun c_19 => ?_) (fun c_19 => ?_)
    · refine v_aload_n C 0 dX12_mended_24 rfl ?_
      refine v_gR C 12 0 67 66 0 (hM.2 _ (u_12 0 (by decide))) k_12 (by decide) x_1309 (fun _ _ _ => rfl) dX12_mended_25 ?_
      refine v_aload_n C 0 dX12_mended_28 rfl ?_
      refine v_gI C 12 0 69 1129 (w 1129 0 0) (hM.2 _ (u_12 0 (by decide))) k_12 (by decide) rfl rfl x_1311 (by simp only [wS_s, wS_t, wS_a, ne_eq, Nat.reduceEqDiff, not_false_eq_true, L7_1]) dX12_mended_29 ?_
      refine v_iconst (v := 1) C dX12_mended_32 (by decide) ?_
      refine v_isub C dX12_mended_33 ?_
      refine v_dup2 C dX12_mended_34 rfl rfl ?_
      refine v_lald C 66 0 (hM.2 _ (u_66 0 (by decide))) ⟨by decide, rfl, rfl⟩ (v_in (N := 40) (by decide) (by clear C; grind) (by clear C; grind)) dX12_mended_35 ?_
      refine v_lconst (v := 1) C dX12_mended_36 (by decide) ?_
      refine v_iload_n C 1 dX12_mended_37 rfl ?_
      refine v_lshl C dX12_mended_38 ?_
      refine v_lor C dX12_mended_39 ?_
      refine v_last C 66 0 (hM.2 _ (u_66 0 (by decide))) ⟨by decide, rfl, rfl⟩ (v_in (N := 40) (by decide) (by clear C; grind) (by clear C; grind)) dX12_mended_40 ?_
      refine v_iconst (v := 1) C dX12_mended_41 (by decide) ?_
      exact v_zret C dX12_mended_42 (by decide) ⟨(by clear C; first | rfl | (rw [if_pos (by grind)]) | (rw [if_neg (by grind)])), (congr (congrArg Prod.mk rfl) (wS_eq rfl (by clear C; first | rfl | (rw [if_pos (by grind)]) | (rw [if_neg (by grind)]))))⟩
    · refine v_iconst (v := 0) C dX12_mended_22 (by decide) ?_
      refine v_z (wS_id _ 66 0).symm ?_
      exact v_zret C dX12_mended_23 (by decide) ⟨(by clear C; first | rfl | (rw [if_pos (by grind)]) | (rw [if_neg (by grind)])), (congr (congrArg Prod.mk rfl) (wS_eq rfl (by clear C; first | rfl | (rw [if_pos (by grind)]) | (rw [if_neg (by grind)]))))⟩
