abbrev P_X1_isWagon (w : Wi) (z : Wj) (wg : Int32) : Int32 → WW → Prop := fun r_ u_ => r_ = (if 0 ≤ wg ∧ wg < 40 then 1 else 0) ∧ u_ = (w, z)
set_option maxHeartbeats 4000000 in
set_option maxRecDepth 100000 in
theorem c_X1_isWagon (E : En) (hE : q_ok E) (w : Wi) (z : Wj) (wg : Int32) : CtI M_X1_isWagon E [.int wg] w z (P_X1_isWagon w z wg) := by
  refine ctI_of (lv := [(0, .int wg)]) hE m_X1_isWagon (Nat.le_of_ble_eq_true rfl) rfl ?_
  intro K A C0
  have C : Cx K E A cX1_isWagon 1 RX1 (some .boolean) { frames := 0, cells := 0, slots := 0, locals := 0 } := C0
  clear C0
  refine v_iload_n C 0 dX1_isWagon_0 rfl ?_
  refine v_if_lt C 14 dX1_isWagon_1 (by decide) (fun c_1 => ?_) (fun c_1 => ?_)
  · refine v_iconst (v := 0) C dX1_isWagon_14 (by decide) ?_
    exact v_zret C dX1_isWagon_15 (by decide) ⟨(by clear C; grind), (congr (congrArg Prod.mk rfl) rfl)⟩
  · refine v_iload_n C 0 dX1_isWagon_4 rfl ?_
    refine v_bipush (v := 40) C dX1_isWagon_5 (by decide) ?_
    refine v_ic_ge C 14 dX1_isWagon_7 (by decide) (fun c_7 => ?_) (fun c_7 => ?_)
    · refine v_iconst (v := 0) C dX1_isWagon_14 (by decide) ?_
      exact v_zret C dX1_isWagon_15 (by decide) ⟨(by clear C; grind), (congr (congrArg Prod.mk rfl) rfl)⟩
    · refine v_iconst (v := 1) C dX1_isWagon_10 (by decide) ?_
      refine v_goto C 15 dX1_isWagon_11 (by decide) ?_
      exact v_zret C dX1_isWagon_15 (by decide) ⟨(by clear C; grind), (congr (congrArg Prod.mk rfl) rfl)⟩
abbrev P_X1_isIn (w : Wi) (z : Wj) (row : Int64) (wg : Int32) : Int32 → WW → Prop := fun r_ u_ => r_ = (inB row wg) ∧ u_ = (w, z)
set_option maxHeartbeats 4000000 in
set_option maxRecDepth 100000 in
theorem c_X1_isIn (E : En) (hE : q_ok E) (w : Wi) (z : Wj) (row : Int64) (wg : Int32) : CtI M_X1_isIn E [.long row, .int wg] w z (P_X1_isIn w z row wg) := by
  refine ctI_of (lv := [(0, .long row), (2, .int wg)]) hE m_X1_isIn (Nat.le_of_ble_eq_true rfl) rfl ?_
  intro K A C0
  have C : Cx K E A cX1_isIn 3 RX1 (some .boolean) { frames := 0, cells := 0, slots := 0, locals := 0 } := C0
  clear C0
  refine v_lload_n C 0 dX1_isIn_0 rfl ?_
  refine v_iload_n C 1 dX1_isIn_1 rfl ?_
  refine v_lshr C dX1_isIn_2 ?_
  refine v_lconst (v := 1) C dX1_isIn_3 (by decide) ?_
  refine v_land C dX1_isIn_4 ?_
  refine v_lconst (v := 1) C dX1_isIn_5 (by decide) ?_
  refine v_lcmp C dX1_isIn_6 ?_
  refine v_if_ne C 14 dX1_isIn_7 (by decide) (fun c_7 => ?_) (fun c_7 => ?_)
  · rw [lg_cmp_eq] at c_7
    refine v_iconst (v := 0) C dX1_isIn_14 (by decide) ?_
    exact v_zret C dX1_isIn_15 (by decide) ⟨(by clear C; simp only [inB]; grind), (congr (congrArg Prod.mk rfl) rfl)⟩
  · rw [lg_cmp_eq] at c_7
    refine v_iconst (v := 1) C dX1_isIn_10 (by decide) ?_
    refine v_goto C 15 dX1_isIn_11 (by decide) ?_
    exact v_zret C dX1_isIn_15 (by decide) ⟨(by clear C; simp only [inB]; grind), (congr (congrArg Prod.mk rfl) rfl)⟩
abbrev P_X1_rowOf (w : Wi) (z : Wj) : Int64 → WW → Prop := fun r_ u_ => r_ = (if (w 661 0 0) < 1 ∨ 16 < (w 661 0 0) then 0 else rowR (w 37 0) ((w 661 0 0)).toNatClampNeg 0 0) ∧ u_ = (w, z)
set_option maxHeartbeats 4000000 in
set_option maxRecDepth 100000 in
theorem c_X1_rowOf (E : En) (hE : q_ok E) (w : Wi) (z : Wj) (h1 : (w 661 0 0) ≤ 740) : CtJ M_X1_rowOf E [.ref (E.ad 1 0), .ref (E.ad 7 0)] w z (P_X1_rowOf w z) := by
  refine ctJ_of (lv := [(0, .ref (E.ad 1 0)), (1, .ref (E.ad 7 0))]) hE m_X1_rowOf (Nat.le_of_ble_eq_true rfl) rfl ?_
  intro K A C0
  have C : Cx K E A cX1_rowOf 6 RX1 (some .long) { frames := 1, cells := 0, slots := 0, locals := 22 } := C0
  clear C0
  refine v_aload_n C 1 dX1_rowOf_0 rfl ?_
  refine v_gI C 7 0 1 661 (w 661 0 0) (C_m C (u_7 0 (by decide))) k_7 (by decide) rfl rfl x_114 rfl dX1_rowOf_1 ?_
  refine v_iconst (v := 1) C dX1_rowOf_4 (by decide) ?_
  refine v_ic_lt C 17 dX1_rowOf_5 (by decide) (fun c_5 => ?_) (fun c_5 => ?_)
  · refine v_lconst (v := 0) C dX1_rowOf_17 (by decide) ?_
    exact v_lret C dX1_rowOf_18 ⟨(by clear C; rw [if_pos (by grind)]), (congr (congrArg Prod.mk rfl) rfl)⟩
  · refine v_aload_n C 1 dX1_rowOf_8 rfl ?_
    refine v_gI C 7 0 1 661 (w 661 0 0) (C_m C (u_7 0 (by decide))) k_7 (by decide) rfl rfl x_114 rfl dX1_rowOf_9 ?_
    refine v_bipush (v := 16) C dX1_rowOf_12 (by decide) ?_
    refine v_ic_le C 19 dX1_rowOf_14 (by decide) (fun c_14 => ?_) (fun c_14 => ?_)
    · refine v_lconst (v := 0) C dX1_rowOf_19 (by decide) ?_
      refine v_lstore_n (lv2 := [(2, .long 0), (0, .ref (E.ad 1 0)), (1, .ref (E.ad 7 0))]) C dX1_rowOf_20 rfl (by decide) rfl ?_
      refine v_iconst (v := 0) C dX1_rowOf_21 (by decide) ?_
      refine v_istore (lv2 := [(4, .int 0), (2, .long 0), (0, .ref (E.ad 1 0)), (1, .ref (E.ad 7 0))]) C dX1_rowOf_22 (by decide) rfl ?_
      have hL24 : ∀ (n_ : Nat) (acc : Int64) (i : Int32), (17 - i).toNatClampNeg < n_ → (0 ≤ i ∧ i ≤ (w 661 0 0) ∧ rowR (w 37 0) ((w 661 0 0) - i).toNatClampNeg i.toNatClampNeg acc = rowR (w 37 0) ((w 661 0 0)).toNatClampNeg 0 0) → V K E A 6 (QJ K E A (P_X1_rowOf w z)) 24 [(4, .int i), (2, .long acc), (0, .ref (E.ad 1 0)), (1, .ref (E.ad 7 0))] [] w z := by
        intro n_
        induction n_ with
        | zero => intro acc i hm_; exact absurd hm_ (Nat.not_lt_zero _)
        | succ n_ ih_24 =>
          intro acc i hm_ hinv
          obtain ⟨g1, g2, g3⟩ := hinv
          refine v_iload C 0 dX1_rowOf_24 rfl ?_
          refine v_aload_n C 3 dX1_rowOf_26 rfl ?_
          refine v_gI C 7 0 1 661 (w 661 0 0) (C_m C (u_7 0 (by decide))) k_7 (by decide) rfl rfl x_114 rfl dX1_rowOf_27 ?_
          refine v_ic_ge C 73 dX1_rowOf_30 (by decide) (fun c_30 => ?_) (fun c_30 => ?_)
          · refine v_lload_n C 1 dX1_rowOf_73 rfl ?_
            exact v_lret C dX1_rowOf_74 ⟨(by clear C ih_24; rw [if_neg (by grind), ← g3, show (w 661 0 0) - i = 0 by grind]; rfl), (congr (congrArg Prod.mk rfl) rfl)⟩
          · refine v_aload_n C 3 dX1_rowOf_33 rfl ?_
            refine v_iload C 0 dX1_rowOf_34 rfl ?_
            refine v_vI C 7 0 [.int i] 1 (c_X7_byteAt E hE _ _  i  (by clear C ih_24; first | assumption | grind)) m_X7_byteAt x_1090 x_584 x_585 p_X7_byteAt rfl ⟨Nat.le_of_ble_eq_true rfl, Nat.le_of_ble_eq_true rfl⟩ (C_m C (u_7 0 (by decide))) k_7 rfl (Nat.le_of_ble_eq_true rfl) dX1_rowOf_36 (fun r1 u1 v1 hp1 => ?_)
            obtain ⟨hr1, hu1⟩ := hp1
            subst hr1
            cases hu1
            refine v_istore (lv2 := [(5, .int (if 0 ≤ i ∧ i < (w 661 0 0) then (w 37 0) (i).toNatClampNeg else (-1))), (4, .int i), (2, .long acc), (0, .ref (E.ad 1 0)), (1, .ref (E.ad 7 0))]) C dX1_rowOf_39 (by decide) rfl ?_
            refine v_iload C 0 dX1_rowOf_41 rfl ?_
            refine v_sI C [.int (if 0 ≤ i ∧ i < (w 661 0 0) then (w 37 0) (i).toNatClampNeg else (-1))] 1 (c_X1_isWagon E hE _ _  (if 0 ≤ i ∧ i < (w 661 0 0) then (w 37 0) (i).toNatClampNeg else (-1))  ) m_X1_isWagon x_1091 x_1092 p_X1_isWagon rfl ⟨Nat.le_of_ble_eq_true rfl, Nat.le_of_ble_eq_true rfl⟩ rfl (Nat.le_of_ble_eq_true rfl) dX1_rowOf_43 (fun r2 u2 v2 hp2 => ?_)
            obtain ⟨hr2, hu2⟩ := hp2
            subst hr2
            cases hu2
            refine v_if_eq C 58 dX1_rowOf_46 (by decide) (fun c_46 => ?_) (fun c_46 => ?_)
            · refine v_lconst (v := 0) C dX1_rowOf_58 (by decide) ?_
              exact v_lret C dX1_rowOf_59 ⟨(by clear C ih_24; rw [if_neg (by grind), ← g3, m_dnn g1 (by grind)]; have hb : (if 0 ≤ i ∧ i < (w 661 0 0) then (w 37 0) i.toNatClampNeg else (-1)) = (w 37 0) i.toNatClampNeg := if_pos ⟨g1, by grind⟩; have q := inB_01 acc ((w 37 0) i.toNatClampNeg); rw [rowR_0 (by grind)]), (congr (congrArg Prod.mk rfl) rfl)⟩
            · refine v_lload_n C 2 dX1_rowOf_49 rfl ?_
              refine v_iload C 0 dX1_rowOf_50 rfl ?_
              refine v_sI C [.long acc, .int (if 0 ≤ i ∧ i < (w 661 0 0) then (w 37 0) (i).toNatClampNeg else (-1))] 2 (c_X1_isIn E hE _ _  acc (if 0 ≤ i ∧ i < (w 661 0 0) then (w 37 0) (i).toNatClampNeg else (-1))  ) m_X1_isIn x_1094 x_1095 p_X1_isIn rfl ⟨Nat.le_of_ble_eq_true rfl, Nat.le_of_ble_eq_true rfl⟩ rfl (Nat.le_of_ble_eq_true rfl) dX1_rowOf_52 (fun r3 u3 v3 hp3 => ?_)
              obtain ⟨hr3, hu3⟩ := hp3
              subst hr3
              cases hu3
              refine v_if_eq C 60 dX1_rowOf_55 (by decide) (fun c_55 => ?_) (fun c_55 => ?_)
              · refine v_lload_n C 2 dX1_rowOf_60 rfl ?_
                refine v_lconst (v := 1) C dX1_rowOf_61 (by decide) ?_
                refine v_iload C 0 dX1_rowOf_62 rfl ?_
                refine v_lshl C dX1_rowOf_64 ?_
                refine v_lor C dX1_rowOf_65 ?_
                refine v_lstore_n (lv2 := [(2, .long (acc ||| ((1 : Int64) <<< ((if 0 ≤ i ∧ i < (w 661 0 0) then (w 37 0) (i).toNatClampNeg else (-1)).toInt64 &&& 63)))), (5, .int (if 0 ≤ i ∧ i < (w 661 0 0) then (w 37 0) (i).toNatClampNeg else (-1))), (4, .int i), (0, .ref (E.ad 1 0)), (1, .ref (E.ad 7 0))]) C dX1_rowOf_66 rfl (by decide) rfl ?_
                refine v_iinc (v := i + 1) (lv2 := [(4, .int (i + 1)), (2, .long (acc ||| ((1 : Int64) <<< ((if 0 ≤ i ∧ i < (w 661 0 0) then (w 37 0) (i).toNatClampNeg else (-1)).toInt64 &&& 63)))), (5, .int (if 0 ≤ i ∧ i < (w 661 0 0) then (w 37 0) (i).toNatClampNeg else (-1))), (0, .ref (E.ad 1 0)), (1, .ref (E.ad 7 0))]) C 2 dX1_rowOf_67 rfl rfl (by decide) rfl ?_
                refine v_goto C 24 dX1_rowOf_70 (by decide) ?_
                refine v_l [0, 1, 3, 4] rfl ?_
                exact ih_24 (acc ||| ((1 : Int64) <<< ((if 0 ≤ i ∧ i < (w 661 0 0) then (w 37 0) (i).toNatClampNeg else (-1)).toInt64 &&& 63))) (i + 1) (by clear C ih_24; exact Nat.lt_of_lt_of_le (m_up (by grind) (by grind)) (Nat.le_of_lt_succ hm_)) (by clear C ih_24; have hb : (if 0 ≤ i ∧ i < (w 661 0 0) then (w 37 0) i.toNatClampNeg else (-1)) = (w 37 0) i.toNatClampNeg := if_pos ⟨g1, by grind⟩; rw [hb] at *; exact ⟨by grind, by grind, by rw [← g3, m_dnn g1 (by grind), rowR_s (by have := inB_01 acc ((w 37 0) i.toNatClampNeg); grind), cl_succ g1 (by grind)]⟩)
              · refine v_lconst (v := 0) C dX1_rowOf_58 (by decide) ?_
                exact v_lret C dX1_rowOf_59 ⟨(by clear C ih_24; rw [if_neg (by grind), ← g3, m_dnn g1 (by grind)]; have hb : (if 0 ≤ i ∧ i < (w 661 0 0) then (w 37 0) i.toNatClampNeg else (-1)) = (w 37 0) i.toNatClampNeg := if_pos ⟨g1, by grind⟩; have q := inB_01 acc ((w 37 0) i.toNatClampNeg); rw [rowR_0 (by grind)]), (congr (congrArg Prod.mk rfl) rfl)⟩
      exact hL24 _ 0 0 (Nat.lt_succ_self _) (by clear C hL24; exact ⟨by decide, by grind, by rw [show (w 661 0 0) - 0 = (w 661 0 0) by grind]; rfl⟩)
    · refine v_lconst (v := 0) C dX1_rowOf_17 (by decide) ?_
      exact v_lret C dX1_rowOf_18 ⟨(by clear C; rw [if_pos (by grind)]), (congr (congrArg Prod.mk rfl) rfl)⟩
abbrev P_X1_addDay (w : Wi) (z : Wj) (row : Int64) (hot : Int32) : Int32 → WW → Prop := fun r_ u_ => r_ = (if row = 0 ∨ 40 ≤ (w 180 0 0) then (-1) else (w 180 0 0)) ∧ u_ = ((wS (wS w 19 0 (if row = 0 ∨ 40 ≤ (w 180 0 0) then (w 19 0) else upd (w 19 0) ((w 180 0 0)).toNatClampNeg (vp_nar .boolean hot))) 180 0 (fun _ => if row = 0 ∨ 40 ≤ (w 180 0 0) then (w 180 0 0) else (w 180 0 0) + 1)), (wS (wS z 17 0 (if row = 0 ∨ 40 ≤ (w 180 0 0) then (z 17 0) else vp_updL (z 17 0) ((w 180 0 0)).toNatClampNeg row)) 18 0 (if row = 0 ∨ 40 ≤ (w 180 0 0) then (z 18 0) else vp_updL (z 18 0) ((w 180 0 0)).toNatClampNeg 0)))
set_option maxHeartbeats 4000000 in
set_option maxRecDepth 100000 in
theorem c_X1_addDay (E : En) (hE : q_ok E) (w : Wi) (z : Wj) (row : Int64) (hot : Int32) (h1 : 0 ≤ (w 180 0 0)) : CtI M_X1_addDay E [.ref (E.ad 1 0), .long row, .int hot] w z (P_X1_addDay w z row hot) := by
  refine ctI_of (lv := [(0, .ref (E.ad 1 0)), (1, .long row), (3, .int hot)]) hE m_X1_addDay (Nat.le_of_ble_eq_true rfl) rfl ?_
  intro K A C0
  have C : Cx K E A cX1_addDay 4 RX1 (some .int) { frames := 0, cells := 0, slots := 0, locals := 0 } := C0
  clear C0
  refine v_lload_n C 1 dX1_addDay_0 rfl ?_
  refine v_lconst (v := 0) C dX1_addDay_1 (by decide) ?_
  refine v_lcmp C dX1_addDay_2 ?_
  refine v_if_eq C 15 dX1_addDay_3 (by decide) (fun c_3 => ?_) (fun c_3 => ?_)
  · rw [lg_cmp_eq] at c_3
    refine v_iconst (v := (-1)) C dX1_addDay_15 (by decide) ?_
    refine v_w (wS_id _ 19 0).symm ?_
    refine v_tS C 180 0 (by decide) ?_
    refine v_z (wS_id _ 17 0).symm ?_
    refine v_z (wS_id _ 18 0).symm ?_
    refine v_z (z2 := (wS (wS z 17 0 (z 17 0)) 18 0 (z 18 0))) (by simp only [wS_s, wS_t, wS_a, ne_eq, Nat.reduceEqDiff, not_false_eq_true, wS_wS, wS_p, wS_pp, Nat.reduceLT, id_eq]) ?_
    refine v_w (w2 := (wS (wS w 19 0 (w 19 0)) 180 0 (fun _ => (w 180 0 0)))) (by simp only [wS_s, wS_t, wS_a, ne_eq, Nat.reduceEqDiff, not_false_eq_true, wS_wS, wS_p, wS_pp, Nat.reduceLT, id_eq]) ?_
    exact v_iret C dX1_addDay_16 ⟨(by clear C; grind), (congr (congrArg Prod.mk (wS_eq (wS_eq rfl (by clear C; grind)) (fu_eq (by clear C; grind)))) (wS_eq (wS_eq rfl (by clear C; grind)) (by clear C; grind)))⟩
  · rw [lg_cmp_eq] at c_3
    refine v_aload_n C 0 dX1_addDay_6 rfl ?_
    refine v_gI C 1 0 0 180 (w 180 0 0) (C_m C (u_1 0 (by decide))) k_1 (by decide) rfl rfl x_474 rfl dX1_addDay_7 ?_
    refine v_bipush (v := 40) C dX1_addDay_10 (by decide) ?_
    refine v_ic_lt C 17 dX1_addDay_12 (by decide) (fun c_12 => ?_) (fun c_12 => ?_)
    · refine v_aload_n C 0 dX1_addDay_17 rfl ?_
      refine v_gR C 1 0 1 17 0 (C_m C (u_1 0 (by decide))) k_1 (by decide) x_476 (fun _ _ _ => rfl) dX1_addDay_18 ?_
      refine v_aload_n C 0 dX1_addDay_21 rfl ?_
      refine v_gI C 1 0 0 180 (w 180 0 0) (C_m C (u_1 0 (by decide))) k_1 (by decide) rfl rfl x_474 rfl dX1_addDay_22 ?_
      refine v_lload_n C 1 dX1_addDay_25 rfl ?_
      refine v_last C 17 0 (C_m C (u_17 0 (by decide))) ⟨by decide, rfl, rfl⟩ (v_in (N := 40) (by decide) (by clear C; grind) (by clear C; grind)) dX1_addDay_26 ?_
      refine v_aload_n C 0 dX1_addDay_27 rfl ?_
      refine v_gR C 1 0 2 18 0 (C_m C (u_1 0 (by decide))) k_1 (by decide) x_477 (fun _ _ _ => rfl) dX1_addDay_28 ?_
      refine v_aload_n C 0 dX1_addDay_31 rfl ?_
      refine v_gI C 1 0 0 180 (w 180 0 0) (C_m C (u_1 0 (by decide))) k_1 (by decide) rfl rfl x_474 rfl dX1_addDay_32 ?_
      refine v_lconst (v := 0) C dX1_addDay_35 (by decide) ?_
      refine v_last C 18 0 (C_m C (u_18 0 (by decide))) ⟨by decide, rfl, rfl⟩ (v_in (N := 40) (by decide) (by clear C; grind) (by clear C; grind)) dX1_addDay_36 ?_
      refine v_z (z2 := (wS (wS z 17 0 (vp_updL (z 17 0) (w 180 0 0).toNatClampNeg row)) 18 0 (vp_updL (z 18 0) (w 180 0 0).toNatClampNeg 0))) (by simp only [wS_s, wS_t, wS_a, ne_eq, Nat.reduceEqDiff, not_false_eq_true, wS_wS, wS_p, wS_pp, Nat.reduceLT, id_eq]) ?_
      refine v_aload_n C 0 dX1_addDay_37 rfl ?_
      refine v_gR C 1 0 3 19 0 (C_m C (u_1 0 (by decide))) k_1 (by decide) x_478 (fun _ _ _ => rfl) dX1_addDay_38 ?_
      refine v_aload_n C 0 dX1_addDay_41 rfl ?_
      refine v_gI C 1 0 0 180 (w 180 0 0) (C_m C (u_1 0 (by decide))) k_1 (by decide) rfl rfl x_474 rfl dX1_addDay_42 ?_
      refine v_iload_n C 2 dX1_addDay_45 rfl ?_
      refine v_zast C 19 0 (C_m C (u_19 0 (by decide))) ⟨by decide, rfl, rfl⟩ (v_in (N := 40) (by decide) (by clear C; grind) (by clear C; grind)) dX1_addDay_46 ?_
      refine v_aload_n C 0 dX1_addDay_47 rfl ?_
      refine v_dup C dX1_addDay_48 rfl ?_
      refine v_gI C 1 0 0 180 (w 180 0 0) (C_m C (u_1 0 (by decide))) k_1 (by decide) rfl rfl x_474 (by simp only [wS_s, wS_t, wS_a, ne_eq, Nat.reduceEqDiff, not_false_eq_true]) dX1_addDay_49 ?_
      refine v_iconst (v := 1) C dX1_addDay_52 (by decide) ?_
      refine v_iadd C dX1_addDay_53 ?_
      refine v_pI C 1 0 0 180 (C_m C (u_1 0 (by decide))) k_1 ty_1 (by decide) rfl ⟨rfl, rfl⟩ x_474 rfl rfl dX1_addDay_54 ?_
      refine v_aload_n C 0 dX1_addDay_57 rfl ?_
      refine v_gI C 1 0 0 180 ((w 180 0 0) + 1) (C_m C (u_1 0 (by decide))) k_1 (by decide) rfl rfl x_474 (by simp only [wS_s, wS_t, wS_a, ne_eq, Nat.reduceEqDiff, not_false_eq_true]) dX1_addDay_58 ?_
      refine v_iconst (v := 1) C dX1_addDay_61 (by decide) ?_
      refine v_isub C dX1_addDay_62 ?_
      exact v_iret C dX1_addDay_63 ⟨(by clear C; grind), (congr (congrArg Prod.mk (wS_eq (wS_eq rfl (by clear C; grind)) (fu_eq (by clear C; grind)))) (wS_eq (wS_eq rfl (by clear C; grind)) (by clear C; grind)))⟩
    · refine v_iconst (v := (-1)) C dX1_addDay_15 (by decide) ?_
      refine v_w (wS_id _ 19 0).symm ?_
      refine v_tS C 180 0 (by decide) ?_
      refine v_z (wS_id _ 17 0).symm ?_
      refine v_z (wS_id _ 18 0).symm ?_
      refine v_z (z2 := (wS (wS z 17 0 (z 17 0)) 18 0 (z 18 0))) (by simp only [wS_s, wS_t, wS_a, ne_eq, Nat.reduceEqDiff, not_false_eq_true, wS_wS, wS_p, wS_pp, Nat.reduceLT, id_eq]) ?_
      refine v_w (w2 := (wS (wS w 19 0 (w 19 0)) 180 0 (fun _ => (w 180 0 0)))) (by simp only [wS_s, wS_t, wS_a, ne_eq, Nat.reduceEqDiff, not_false_eq_true, wS_wS, wS_p, wS_pp, Nat.reduceLT, id_eq]) ?_
      exact v_iret C dX1_addDay_16 ⟨(by clear C; grind), (congr (congrArg Prod.mk (wS_eq (wS_eq rfl (by clear C; grind)) (fu_eq (by clear C; grind)))) (wS_eq (wS_eq rfl (by clear C; grind)) (by clear C; grind)))⟩
abbrev P_X1_mend (w : Wi) (z : Wj) (wg : Int32) : Int32 → WW → Prop := fun r_ u_ => r_ = (if (0 ≤ wg ∧ wg < 40) ∧ 1 ≤ (w 180 0 0) ∧ (w 180 0 0) ≤ 40 then 1 else 0) ∧ u_ = (w, (wS z 18 0 (if (0 ≤ wg ∧ wg < 40) ∧ 1 ≤ (w 180 0 0) ∧ (w 180 0 0) ≤ 40 then vp_updL (z 18 0) ((w 180 0 0) - 1).toNatClampNeg ((z 18 0) ((w 180 0 0) - 1).toNatClampNeg ||| (1 : Int64) <<< ((wg).toInt64 &&& 63)) else (z 18 0))))
set_option maxHeartbeats 4000000 in
set_option maxRecDepth 100000 in
theorem c_X1_mend (E : En) (hE : q_ok E) (w : Wi) (z : Wj) (wg : Int32) : CtI M_X1_mend E [.ref (E.ad 1 0), .int wg] w z (P_X1_mend w z wg) := by
  refine ctI_of (lv := [(0, .ref (E.ad 1 0)), (1, .int wg)]) hE m_X1_mend (Nat.le_of_ble_eq_true rfl) rfl ?_
  intro K A C0
  have C : Cx K E A cX1_mend 2 RX1 (some .boolean) { frames := 1, cells := 0, slots := 0, locals := 20 } := C0
  clear C0
  refine v_iload_n C 1 dX1_mend_0 rfl ?_
  refine v_sI C [.int wg] 1 (c_X1_isWagon E hE _ _  wg  ) m_X1_isWagon x_1091 x_1092 p_X1_isWagon rfl ⟨Nat.le_of_ble_eq_true rfl, Nat.le_of_ble_eq_true rfl⟩ rfl (Nat.le_of_ble_eq_true rfl) dX1_mend_1 (fun r1 u1 v1 hp1 => ?_)
  obtain ⟨hr1, hu1⟩ := hp1
  subst hr1
  cases hu1
  refine v_if_eq C 24 dX1_mend_4 (by decide) (fun c_4 => ?_) (fun c_4 => ?_)
  · refine v_iconst (v := 0) C dX1_mend_24 (by decide) ?_
    refine v_z (wS_id _ 18 0).symm ?_
    exact v_zret C dX1_mend_25 (by decide) ⟨(by clear C; grind), (congr (congrArg Prod.mk rfl) (wS_eq rfl (by clear C; grind)))⟩
  · refine v_aload_n C 0 dX1_mend_7 rfl ?_
    refine v_gI C 1 0 0 180 (w 180 0 0) (C_m C (u_1 0 (by decide))) k_1 (by decide) rfl rfl x_474 rfl dX1_mend_8 ?_
    refine v_iconst (v := 1) C dX1_mend_11 (by decide) ?_
    refine v_ic_lt C 24 dX1_mend_12 (by decide) (fun c_12 => ?_) (fun c_12 => ?_)
    · refine v_iconst (v := 0) C dX1_mend_24 (by decide) ?_
      refine v_z (wS_id _ 18 0).symm ?_
      exact v_zret C dX1_mend_25 (by decide) ⟨(by clear C; grind), (congr (congrArg Prod.mk rfl) (wS_eq rfl (by clear C; grind)))⟩
    · refine v_aload_n C 0 dX1_mend_15 rfl ?_
      refine v_gI C 1 0 0 180 (w 180 0 0) (C_m C (u_1 0 (by decide))) k_1 (by decide) rfl rfl x_474 rfl dX1_mend_16 ?_
      refine v_bipush (v := 40) C dX1_mend_19 (by decide) ?_
      refine v_ic_le C 26 dX1_mend_21 (by decide) (fun c_21 => ?_) (fun c_21 => ?_)
      · refine v_aload_n C 0 dX1_mend_26 rfl ?_
        refine v_gR C 1 0 2 18 0 (C_m C (u_1 0 (by decide))) k_1 (by decide) x_477 (fun _ _ _ => rfl) dX1_mend_27 ?_
        refine v_aload_n C 0 dX1_mend_30 rfl ?_
        refine v_gI C 1 0 0 180 (w 180 0 0) (C_m C (u_1 0 (by decide))) k_1 (by decide) rfl rfl x_474 rfl dX1_mend_31 ?_
        refine v_iconst (v := 1) C dX1_mend_34 (by decide) ?_
        refine v_isub C dX1_mend_35 ?_
        refine v_dup2 C dX1_mend_36 rfl rfl ?_
        refine v_lald C 18 0 (C_m C (u_18 0 (by decide))) ⟨by decide, rfl, rfl⟩ (v_in (N := 40) (by decide) (by clear C; grind) (by clear C; grind)) dX1_mend_37 ?_
        refine v_lconst (v := 1) C dX1_mend_38 (by decide) ?_
        refine v_iload_n C 1 dX1_mend_39 rfl ?_
        refine v_lshl C dX1_mend_40 ?_
        refine v_lor C dX1_mend_41 ?_
        refine v_last C 18 0 (C_m C (u_18 0 (by decide))) ⟨by decide, rfl, rfl⟩ (v_in (N := 40) (by decide) (by clear C; grind) (by clear C; grind)) dX1_mend_42 ?_
        refine v_iconst (v := 1) C dX1_mend_43 (by decide) ?_
        exact v_zret C dX1_mend_44 (by decide) ⟨(by clear C; grind), (congr (congrArg Prod.mk rfl) (wS_eq rfl (by clear C; grind)))⟩
      · refine v_iconst (v := 0) C dX1_mend_24 (by decide) ?_
        refine v_z (wS_id _ 18 0).symm ?_
        exact v_zret C dX1_mend_25 (by decide) ⟨(by clear C; grind), (congr (congrArg Prod.mk rfl) (wS_eq rfl (by clear C; grind)))⟩
abbrev P_X1_foundAt (w : Wi) (z : Wj) (k : Int32) : Int32 → WW → Prop := fun r_ u_ => r_ = (if 0 ≤ k ∧ k < (w 185 0 0) ∧ k < 40 then (w 20 0) (k).toNatClampNeg else (-1)) ∧ u_ = (w, z)
set_option maxHeartbeats 4000000 in
set_option maxRecDepth 100000 in
theorem c_X1_foundAt (E : En) (hE : q_ok E) (w : Wi) (z : Wj) (k : Int32) : CtI M_X1_foundAt E [.ref (E.ad 1 0), .int k] w z (P_X1_foundAt w z k) := by
  refine ctI_of (lv := [(0, .ref (E.ad 1 0)), (1, .int k)]) hE m_X1_foundAt (Nat.le_of_ble_eq_true rfl) rfl ?_
  intro K A C0
  have C : Cx K E A cX1_foundAt 2 RX1 (some .int) { frames := 0, cells := 0, slots := 0, locals := 0 } := C0
  clear C0
  refine v_iload_n C 1 dX1_foundAt_0 rfl ?_
  refine v_if_lt C 27 dX1_foundAt_1 (by decide) (fun c_1 => ?_) (fun c_1 => ?_)
  · refine v_iconst (v := (-1)) C dX1_foundAt_27 (by decide) ?_
    exact v_iret C dX1_foundAt_28 ⟨(by clear C; grind), (congr (congrArg Prod.mk rfl) rfl)⟩
  · refine v_iload_n C 1 dX1_foundAt_4 rfl ?_
    refine v_aload_n C 0 dX1_foundAt_5 rfl ?_
    refine v_gI C 1 0 5 185 (w 185 0 0) (C_m C (u_1 0 (by decide))) k_1 (by decide) rfl rfl x_480 rfl dX1_foundAt_6 ?_
    refine v_ic_ge C 27 dX1_foundAt_9 (by decide) (fun c_9 => ?_) (fun c_9 => ?_)
    · refine v_iconst (v := (-1)) C dX1_foundAt_27 (by decide) ?_
      exact v_iret C dX1_foundAt_28 ⟨(by clear C; grind), (congr (congrArg Prod.mk rfl) rfl)⟩
    · refine v_iload_n C 1 dX1_foundAt_12 rfl ?_
      refine v_bipush (v := 40) C dX1_foundAt_13 (by decide) ?_
      refine v_ic_ge C 27 dX1_foundAt_15 (by decide) (fun c_15 => ?_) (fun c_15 => ?_)
      · refine v_iconst (v := (-1)) C dX1_foundAt_27 (by decide) ?_
        exact v_iret C dX1_foundAt_28 ⟨(by clear C; grind), (congr (congrArg Prod.mk rfl) rfl)⟩
      · refine v_aload_n C 0 dX1_foundAt_18 rfl ?_
        refine v_gR C 1 0 4 20 0 (C_m C (u_1 0 (by decide))) k_1 (by decide) x_479 (fun _ _ _ => rfl) dX1_foundAt_19 ?_
        refine v_iload_n C 1 dX1_foundAt_22 rfl ?_
        refine v_iald C 20 0 (C_m C (u_20 0 (by decide))) ⟨by decide, rfl, rfl⟩ (v_in (N := 40) (by decide) (by clear C; grind) (by clear C; grind)) dX1_foundAt_23 ?_
        refine v_goto C 28 dX1_foundAt_24 (by decide) ?_
        exact v_iret C dX1_foundAt_28 ⟨(by clear C; grind), (congr (congrArg Prod.mk rfl) rfl)⟩
abbrev P_X1_explains (w : Wi) (z : Wj) (wg : Int32) (st : Int32) (d : Int32) : Int32 → WW → Prop := fun r_ u_ => r_ = (exR (z 17 0) (z 18 0) (w 19 0) wg st (d + 1).toNatClampNeg 0 0) ∧ u_ = (w, z)
set_option maxHeartbeats 4000000 in
set_option maxRecDepth 100000 in
theorem c_X1_explains (E : En) (hE : q_ok E) (w : Wi) (z : Wj) (wg : Int32) (st : Int32) (d : Int32) (h1 : 0 ≤ d) (h2 : d < 40) : CtI M_X1_explains E [.ref (E.ad 1 0), .int wg, .int st, .int d] w z (P_X1_explains w z wg st d) := by
  refine ctI_of (lv := [(0, .ref (E.ad 1 0)), (1, .int wg), (2, .int st), (3, .int d)]) hE m_X1_explains (Nat.le_of_ble_eq_true rfl) rfl ?_
  intro K A C0
  have C : Cx K E A cX1_explains 6 RX1 (some .boolean) { frames := 1, cells := 0, slots := 0, locals := 22 } := C0
  clear C0
  refine v_iconst (v := 0) C dX1_explains_0 (by decide) ?_
  refine v_istore (lv2 := [(4, .int 0), (0, .ref (E.ad 1 0)), (1, .int wg), (2, .int st), (3, .int d)]) C dX1_explains_1 (by decide) rfl ?_
  refine v_iconst (v := 0) C dX1_explains_3 (by decide) ?_
  refine v_istore (lv2 := [(5, .int 0), (4, .int 0), (0, .ref (E.ad 1 0)), (1, .int wg), (2, .int st), (3, .int d)]) C dX1_explains_4 (by decide) rfl ?_
  have hL6 : ∀ (n_ : Nat) (bad : Int32) (i : Int32), (40 - i).toNatClampNeg < n_ → (0 ≤ i ∧ i ≤ d + 1 ∧ exR (z 17 0) (z 18 0) (w 19 0) wg st (d + 1 - i).toNatClampNeg i.toNatClampNeg bad = exR (z 17 0) (z 18 0) (w 19 0) wg st (d + 1).toNatClampNeg 0 0) → V K E A 6 (QI K E A (P_X1_explains w z wg st d)) 6 [(5, .int i), (4, .int bad), (0, .ref (E.ad 1 0)), (1, .int wg), (2, .int st), (3, .int d)] [] w z := by
    intro n_
    induction n_ with
    | zero => intro bad i hm_; exact absurd hm_ (Nat.not_lt_zero _)
    | succ n_ ih_6 =>
      intro bad i hm_ hinv
      obtain ⟨g1, g2, g3⟩ := hinv
      refine v_iload C 0 dX1_explains_6 rfl ?_
      refine v_iload_n C 5 dX1_explains_8 rfl ?_
      refine v_ic_gt C 87 dX1_explains_9 (by decide) (fun c_9 => ?_) (fun c_9 => ?_)
      · refine v_iconst (v := 1) C dX1_explains_87 (by decide) ?_
        exact v_zret C dX1_explains_88 (by decide) ⟨(by clear C ih_6; rw [← g3, show d + 1 - i = 0 by grind]; rfl), (congr (congrArg Prod.mk rfl) rfl)⟩
      · refine v_iload C 0 dX1_explains_12 rfl ?_
        refine v_bipush (v := 40) C dX1_explains_14 (by decide) ?_
        refine v_ic_ge C 87 dX1_explains_16 (by decide) (fun c_16 => absurd c_16 (by clear C ih_6; grind)) (fun c_16 => ?_)
        have hL28 : ∀ (b1 : Int32), (b1 = (if i = st then 1 else bad)) → V K E A 6 (QI K E A (P_X1_explains w z wg st d)) 28 [(5, .int i), (4, .int b1), (0, .ref (E.ad 1 0)), (1, .int wg), (2, .int st), (3, .int d)] [] w z := by
          intro b1 hinv
          have e1 := hinv
          refine v_aload_n C 2 dX1_explains_28 rfl ?_
          refine v_gR C 1 0 3 19 0 (C_m C (u_1 0 (by decide))) k_1 (by decide) x_478 (fun _ _ _ => rfl) dX1_explains_29 ?_
          refine v_iload C 0 dX1_explains_32 rfl ?_
          refine v_zald C 19 0 (C_m C (u_19 0 (by decide))) ⟨by decide, rfl, rfl⟩ (v_in (N := 40) (by decide) (by clear C ih_6; grind) (by clear C ih_6; grind)) dX1_explains_34 ?_
          have hL59 : ∀ (x : Int32), (x = (if b1 ≠ 0 ∧ inB ((z 17 0) i.toNatClampNeg) wg ≠ 0 then 1 else 0)) → V K E A 6 (QI K E A (P_X1_explains w z wg st d)) 59 [(5, .int i), (4, .int b1), (0, .ref (E.ad 1 0)), (1, .int wg), (2, .int st), (3, .int d)] [.int x, .int ((w 19 0) i.toNatClampNeg)] w z := by
            intro x hinv
            have e3 := hinv
            refine v_ic_eq C 64 dX1_explains_59 (by decide) (fun c_59 => ?_) (fun c_59 => ?_)
            · have hL81 : ∀ (b2 : Int32), (b2 = (if inB ((z 18 0) i.toNatClampNeg) wg ≠ 0 then 0 else b1)) → V K E A 6 (QI K E A (P_X1_explains w z wg st d)) 81 [(5, .int i), (4, .int b2), (0, .ref (E.ad 1 0)), (1, .int wg), (2, .int st), (3, .int d)] [] w z := by
                intro b2 hinv
                have e2 := hinv
                refine v_iinc (v := i + 1) (lv2 := [(5, .int (i + 1)), (4, .int b2), (0, .ref (E.ad 1 0)), (1, .int wg), (2, .int st), (3, .int d)]) C 0 dX1_explains_81 rfl rfl (by decide) rfl ?_
                refine v_goto C 6 dX1_explains_84 (by decide) ?_
                exact ih_6 b2 (i + 1) (by clear C ih_6; exact Nat.lt_of_lt_of_le (m_up (by grind) (by grind)) (Nat.le_of_lt_succ hm_)) (by clear C ih_6; exact ⟨by grind, by grind, by rw [← g3, m_dnn g1 (by grind), cl_succ g1 (by grind)]; simp only [exR, nI_cl g1]; rw [if_pos (by grind), ← e1, ← e2]⟩)
              refine v_aload_n C 2 dX1_explains_64 rfl ?_
              refine v_gR C 1 0 2 18 0 (C_m C (u_1 0 (by decide))) k_1 (by decide) x_477 (fun _ _ _ => rfl) dX1_explains_65 ?_
              refine v_iload C 0 dX1_explains_68 rfl ?_
              refine v_lald C 18 0 (C_m C (u_18 0 (by decide))) ⟨by decide, rfl, rfl⟩ (v_in (N := 40) (by decide) (by clear C ih_6 hL81; grind) (by clear C ih_6 hL81; grind)) dX1_explains_70 ?_
              refine v_iload_n C 3 dX1_explains_71 rfl ?_
              refine v_sI C [.long ((z 18 0) i.toNatClampNeg), .int wg] 2 (c_X1_isIn E hE _ _  ((z 18 0) i.toNatClampNeg) wg  ) m_X1_isIn x_1094 x_1095 p_X1_isIn rfl ⟨Nat.le_of_ble_eq_true rfl, Nat.le_of_ble_eq_true rfl⟩ rfl (Nat.le_of_ble_eq_true rfl) dX1_explains_72 (fun r1 u1 v1 hp1 => ?_)
              obtain ⟨hr1, hu1⟩ := hp1
              subst hr1
              cases hu1
              refine v_if_eq C 81 dX1_explains_75 (by decide) (fun c_75 => ?_) (fun c_75 => ?_)
              · exact hL81 b1 (by clear C ih_6 hL81; grind)
              · refine v_iconst (v := 0) C dX1_explains_78 (by decide) ?_
                refine v_istore (lv2 := [(4, .int 0), (5, .int i), (0, .ref (E.ad 1 0)), (1, .int wg), (2, .int st), (3, .int d)]) C dX1_explains_79 (by decide) rfl ?_
                refine v_l [1, 0, 2, 3, 4, 5] rfl ?_
                exact hL81 0 (by clear C ih_6 hL81; grind)
            · refine v_iconst (v := 0) C dX1_explains_62 (by decide) ?_
              exact v_zret C dX1_explains_63 (by decide) ⟨(by clear C ih_6; rw [← g3, m_dnn g1 (by grind)]; simp only [exR, nI_cl g1]; rw [if_neg (by grind)]), (congr (congrArg Prod.mk rfl) rfl)⟩
          refine v_iload C 1 dX1_explains_35 rfl ?_
          refine v_if_eq C 58 dX1_explains_37 (by decide) (fun c_37 => ?_) (fun c_37 => ?_)
          · refine v_iconst (v := 0) C dX1_explains_58 (by decide) ?_
            exact hL59 0 (by clear C ih_6 hL59; grind)
          · refine v_aload_n C 2 dX1_explains_40 rfl ?_
            refine v_gR C 1 0 1 17 0 (C_m C (u_1 0 (by decide))) k_1 (by decide) x_476 (fun _ _ _ => rfl) dX1_explains_41 ?_
            refine v_iload C 0 dX1_explains_44 rfl ?_
            refine v_lald C 17 0 (C_m C (u_17 0 (by decide))) ⟨by decide, rfl, rfl⟩ (v_in (N := 40) (by decide) (by clear C ih_6 hL59; grind) (by clear C ih_6 hL59; grind)) dX1_explains_46 ?_
            refine v_iload_n C 3 dX1_explains_47 rfl ?_
            refine v_sI C [.long ((z 17 0) i.toNatClampNeg), .int wg] 2 (c_X1_isIn E hE _ _  ((z 17 0) i.toNatClampNeg) wg  ) m_X1_isIn x_1094 x_1095 p_X1_isIn rfl ⟨Nat.le_of_ble_eq_true rfl, Nat.le_of_ble_eq_true rfl⟩ rfl (Nat.le_of_ble_eq_true rfl) dX1_explains_48 (fun r2 u2 v2 hp2 => ?_)
            obtain ⟨hr2, hu2⟩ := hp2
            subst hr2
            cases hu2
            refine v_if_eq C 58 dX1_explains_51 (by decide) (fun c_51 => ?_) (fun c_51 => ?_)
            · refine v_iconst (v := 0) C dX1_explains_58 (by decide) ?_
              exact hL59 0 (by clear C ih_6 hL59; grind)
            · refine v_iconst (v := 1) C dX1_explains_54 (by decide) ?_
              refine v_goto C 59 dX1_explains_55 (by decide) ?_
              exact hL59 1 (by clear C ih_6 hL59; grind)
        refine v_iload C 0 dX1_explains_19 rfl ?_
        refine v_iload_n C 4 dX1_explains_21 rfl ?_
        refine v_ic_ne C 28 dX1_explains_22 (by decide) (fun c_22 => ?_) (fun c_22 => ?_)
        · exact hL28 bad (by clear C ih_6 hL28; grind)
        · refine v_iconst (v := 1) C dX1_explains_25 (by decide) ?_
          refine v_istore (lv2 := [(4, .int 1), (5, .int i), (0, .ref (E.ad 1 0)), (1, .int wg), (2, .int st), (3, .int d)]) C dX1_explains_26 (by decide) rfl ?_
          refine v_l [1, 0, 2, 3, 4, 5] rfl ?_
          exact hL28 1 (by clear C ih_6 hL28; grind)
  exact hL6 _ 0 0 (Nat.lt_succ_self _) (by clear C hL6; exact ⟨by decide, by grind, by rw [show d + 1 - 0 = d + 1 by grind]; rfl⟩)
abbrev P_X1_latestStart (w : Wi) (z : Wj) (wg : Int32) (d : Int32) : Int32 → WW → Prop := fun r_ u_ => r_ = (lsR (exF (z 17 0) (z 18 0) (w 19 0) wg d) (d + 1).toNatClampNeg) ∧ u_ = (w, z)
set_option maxHeartbeats 4000000 in
set_option maxRecDepth 100000 in
theorem c_X1_latestStart (E : En) (hE : q_ok E) (w : Wi) (z : Wj) (wg : Int32) (d : Int32) (h1 : 0 ≤ d) (h2 : d < 40) : CtI M_X1_latestStart E [.ref (E.ad 1 0), .int wg, .int d] w z (P_X1_latestStart w z wg d) := by
  refine ctI_of (lv := [(0, .ref (E.ad 1 0)), (1, .int wg), (2, .int d)]) hE m_X1_latestStart (Nat.le_of_ble_eq_true rfl) rfl ?_
  intro K A C0
  have C : Cx K E A cX1_latestStart 4 RX1 (some .int) { frames := 2, cells := 0, slots := 0, locals := 47 } := C0
  clear C0
  refine v_iload_n C 2 dX1_latestStart_0 rfl ?_
  refine v_istore_n (lv2 := [(3, .int d), (0, .ref (E.ad 1 0)), (1, .int wg), (2, .int d)]) C dX1_latestStart_1 rfl (by decide) rfl ?_
  have hL2 : ∀ (n_ : Nat) (i : Int32), (i + 1).toNatClampNeg < n_ → ((-1) ≤ i ∧ i ≤ d ∧ lsR (exF (z 17 0) (z 18 0) (w 19 0) wg d) (i + 1).toNatClampNeg = lsR (exF (z 17 0) (z 18 0) (w 19 0) wg d) (d + 1).toNatClampNeg) → V K E A 4 (QI K E A (P_X1_latestStart w z wg d)) 2 [(3, .int i), (0, .ref (E.ad 1 0)), (1, .int wg), (2, .int d)] [] w z := by
    intro n_
    induction n_ with
    | zero => intro i hm_; exact absurd hm_ (Nat.not_lt_zero _)
    | succ n_ ih_2 =>
      intro i hm_ hinv
      obtain ⟨g1, g2, g3⟩ := hinv
      refine v_iload_n C 0 dX1_latestStart_2 rfl ?_
      refine v_if_lt C 24 dX1_latestStart_3 (by decide) (fun c_3 => ?_) (fun c_3 => ?_)
      · refine v_iconst (v := (-1)) C dX1_latestStart_24 (by decide) ?_
        exact v_iret C dX1_latestStart_25 ⟨(by clear C ih_2; rw [← g3, show i + 1 = 0 by grind]; rfl), (congr (congrArg Prod.mk rfl) rfl)⟩
      · refine v_aload_n C 1 dX1_latestStart_6 rfl ?_
        refine v_iload_n C 2 dX1_latestStart_7 rfl ?_
        refine v_iload_n C 0 dX1_latestStart_8 rfl ?_
        refine v_iload_n C 3 dX1_latestStart_9 rfl ?_
        refine v_vI C 1 0 [.int wg, .int i, .int d] 3 (c_X1_explains E hE _ _  wg i d  (by clear C ih_2; grind) (by clear C ih_2; grind)) m_X1_explains x_1121 x_1123 x_32 p_X1_explains rfl ⟨Nat.le_of_ble_eq_true rfl, Nat.le_of_ble_eq_true rfl⟩ (C_m C (u_1 0 (by decide))) k_1 rfl (Nat.le_of_ble_eq_true rfl) dX1_latestStart_10 (fun r1 u1 v1 hp1 => ?_)
        obtain ⟨hr1, hu1⟩ := hp1
        subst hr1
        cases hu1
        refine v_if_eq C 18 dX1_latestStart_13 (by decide) (fun c_13 => ?_) (fun c_13 => ?_)
        · refine v_iinc (v := i + (-1)) (lv2 := [(3, .int (i + (-1))), (0, .ref (E.ad 1 0)), (1, .int wg), (2, .int d)]) C 0 dX1_latestStart_18 rfl rfl (by decide) rfl ?_
          refine v_goto C 2 dX1_latestStart_21 (by decide) ?_
          exact ih_2 (i + (-1)) (by clear C ih_2; rcases m_dn (i := i) (by grind) with q | q; exact Nat.lt_of_lt_of_le q (Nat.le_of_lt_succ hm_); exact absurd q (by grind)) (by clear C ih_2; exact ⟨by grind, by grind, by rw [← g3, show i + (-1) + 1 = i by grind, cl_succ (by grind) (by grind)]; simp only [lsR, exF, nI_cl (show (0 : Int32) ≤ i by grind)]; rw [if_neg (not_not_intro (by assumption))]⟩)
        · refine v_iload_n C 0 dX1_latestStart_16 rfl ?_
          exact v_iret C dX1_latestStart_17 ⟨(by clear C ih_2; rw [← g3, cl_succ (by grind) (by grind)]; simp only [lsR, exF, nI_cl (show (0 : Int32) ≤ i by grind)]; rw [if_pos (by assumption)]), (congr (congrArg Prod.mk rfl) rfl)⟩
  exact hL2 _ d (Nat.lt_succ_self _) (by clear C hL2; exact ⟨by grind, by grind, rfl⟩)
abbrev P_X1_isBadStill (w : Wi) (z : Wj) (wg : Int32) (st : Int32) : Int32 → WW → Prop := fun r_ u_ => r_ = (bsR (z 18 0) wg ((w 180 0 0) - st).toNatClampNeg (st).toNatClampNeg) ∧ u_ = (w, z)
set_option maxHeartbeats 4000000 in
set_option maxRecDepth 100000 in
theorem c_X1_isBadStill (E : En) (hE : q_ok E) (w : Wi) (z : Wj) (wg : Int32) (st : Int32) (h1 : (w 180 0 0) ≤ 40) (h2 : 0 ≤ st) (h3 : st ≤ (w 180 0 0)) : CtI M_X1_isBadStill E [.ref (E.ad 1 0), .int wg, .int st] w z (P_X1_isBadStill w z wg st) := by
  refine ctI_of (lv := [(0, .ref (E.ad 1 0)), (1, .int wg), (2, .int st)]) hE m_X1_isBadStill (Nat.le_of_ble_eq_true rfl) rfl ?_
  intro K A C0
  have C : Cx K E A cX1_isBadStill 4 RX1 (some .boolean) { frames := 1, cells := 0, slots := 0, locals := 22 } := C0
  clear C0
  refine v_iconst (v := 0) C dX1_isBadStill_0 (by decide) ?_
  refine v_iload_n C 2 dX1_isBadStill_1 rfl ?_
  refine v_mmax C x_1145 x_592 x_85 x_593 ⟨by decide, Nat.le_of_ble_eq_true rfl⟩ dX1_isBadStill_2 ?_
  refine v_istore_n (lv2 := [(3, .int (if 0 < st then st else 0)), (0, .ref (E.ad 1 0)), (1, .int wg), (2, .int st)]) C dX1_isBadStill_5 rfl (by decide) rfl ?_
  have hL6 : ∀ (n_ : Nat) (i : Int32), (40 - i).toNatClampNeg < n_ → (0 ≤ i ∧ i ≤ (w 180 0 0) ∧ bsR (z 18 0) wg ((w 180 0 0) - i).toNatClampNeg i.toNatClampNeg = bsR (z 18 0) wg ((w 180 0 0) - st).toNatClampNeg (st).toNatClampNeg) → V K E A 4 (QI K E A (P_X1_isBadStill w z wg st)) 6 [(3, .int i), (0, .ref (E.ad 1 0)), (1, .int wg), (2, .int st)] [] w z := by
    intro n_
    induction n_ with
    | zero => intro i hm_; exact absurd hm_ (Nat.not_lt_zero _)
    | succ n_ ih_6 =>
      intro i hm_ hinv
      obtain ⟨g1, g2, g3⟩ := hinv
      refine v_iload_n C 0 dX1_isBadStill_6 rfl ?_
      refine v_aload_n C 1 dX1_isBadStill_7 rfl ?_
      refine v_gI C 1 0 0 180 (w 180 0 0) (C_m C (u_1 0 (by decide))) k_1 (by decide) rfl rfl x_474 rfl dX1_isBadStill_8 ?_
      refine v_ic_ge C 41 dX1_isBadStill_11 (by decide) (fun c_11 => ?_) (fun c_11 => ?_)
      · refine v_iconst (v := 1) C dX1_isBadStill_41 (by decide) ?_
        exact v_zret C dX1_isBadStill_42 (by decide) ⟨(by clear C ih_6; rw [← g3, show (w 180 0 0) - i = 0 by grind]; rfl), (congr (congrArg Prod.mk rfl) rfl)⟩
      · refine v_iload_n C 0 dX1_isBadStill_14 rfl ?_
        refine v_bipush (v := 40) C dX1_isBadStill_15 (by decide) ?_
        refine v_ic_ge C 41 dX1_isBadStill_17 (by decide) (fun c_17 => absurd c_17 (by clear C ih_6; grind)) (fun c_17 => ?_)
        refine v_aload_n C 1 dX1_isBadStill_20 rfl ?_
        refine v_gR C 1 0 2 18 0 (C_m C (u_1 0 (by decide))) k_1 (by decide) x_477 (fun _ _ _ => rfl) dX1_isBadStill_21 ?_
        refine v_iload_n C 0 dX1_isBadStill_24 rfl ?_
        refine v_lald C 18 0 (C_m C (u_18 0 (by decide))) ⟨by decide, rfl, rfl⟩ (v_in (N := 40) (by decide) (by clear C ih_6; grind) (by clear C ih_6; grind)) dX1_isBadStill_25 ?_
        refine v_iload_n C 2 dX1_isBadStill_26 rfl ?_
        refine v_sI C [.long ((z 18 0) i.toNatClampNeg), .int wg] 2 (c_X1_isIn E hE _ _  ((z 18 0) i.toNatClampNeg) wg  ) m_X1_isIn x_1094 x_1095 p_X1_isIn rfl ⟨Nat.le_of_ble_eq_true rfl, Nat.le_of_ble_eq_true rfl⟩ rfl (Nat.le_of_ble_eq_true rfl) dX1_isBadStill_27 (fun r1 u1 v1 hp1 => ?_)
        obtain ⟨hr1, hu1⟩ := hp1
        subst hr1
        cases hu1
        refine v_if_eq C 35 dX1_isBadStill_30 (by decide) (fun c_30 => ?_) (fun c_30 => ?_)
        · refine v_iinc (v := i + 1) (lv2 := [(3, .int (i + 1)), (0, .ref (E.ad 1 0)), (1, .int wg), (2, .int st)]) C 0 dX1_isBadStill_35 rfl rfl (by decide) rfl ?_
          refine v_goto C 6 dX1_isBadStill_38 (by decide) ?_
          exact ih_6 (i + 1) (by clear C ih_6; exact Nat.lt_of_lt_of_le (m_up (by grind) (by grind)) (Nat.le_of_lt_succ hm_)) (by clear C ih_6; exact ⟨by grind, by grind, by rw [← g3, m_dnn g1 (by grind), cl_succ g1 (by grind)]; simp only [bsR]; rw [if_neg (not_not_intro (by assumption))]⟩)
        · refine v_iconst (v := 0) C dX1_isBadStill_33 (by decide) ?_
          exact v_zret C dX1_isBadStill_34 (by decide) ⟨(by clear C ih_6; rw [← g3, m_dnn g1 (by grind)]; simp only [bsR]; rw [if_pos (by assumption)]), (congr (congrArg Prod.mk rfl) rfl)⟩
  exact hL6 _ (if 0 < st then st else 0) (Nat.lt_succ_self _) (by clear C hL6; have e : (if 0 < st then st else 0) = st := (by grind); rw [e]; exact ⟨by grind, by grind, rfl⟩)
abbrev P_X1_findSuspects (w : Wi) (z : Wj) (d : Int32) : Int32 → WW → Prop := fun r_ u_ => r_ = (if d < 0 ∨ (w 180 0 0) ≤ d then (-1) else (fsR (lsF (z 17 0) (z 18 0) (w 19 0) d) (w 20 0) 40).2) ∧ u_ = ((wS (wS w 20 0 (if d < 0 ∨ (w 180 0 0) ≤ d then (w 20 0) else (fsR (lsF (z 17 0) (z 18 0) (w 19 0) d) (w 20 0) 40).1)) 185 0 (fun _ => if d < 0 ∨ (w 180 0 0) ≤ d then (w 185 0 0) else (fsR (lsF (z 17 0) (z 18 0) (w 19 0) d) (w 20 0) 40).2)), z)
set_option maxHeartbeats 4000000 in
set_option maxRecDepth 100000 in
theorem c_X1_findSuspects (E : En) (hE : q_ok E) (w : Wi) (z : Wj) (d : Int32) (h1 : (w 180 0 0) ≤ 40) : CtI M_X1_findSuspects E [.ref (E.ad 1 0), .int d] w z (P_X1_findSuspects w z d) := by
  refine ctI_of (lv := [(0, .ref (E.ad 1 0)), (1, .int d)]) hE m_X1_findSuspects (Nat.le_of_ble_eq_true rfl) rfl ?_
  intro K A C0
  have C : Cx K E A cX1_findSuspects 3 RX1 (some .int) { frames := 3, cells := 0, slots := 0, locals := 70 } := C0
  clear C0
  refine v_iload_n C 1 dX1_findSuspects_0 rfl ?_
  refine v_if_lt C 12 dX1_findSuspects_1 (by decide) (fun c_1 => ?_) (fun c_1 => ?_)
  · refine v_iconst (v := (-1)) C dX1_findSuspects_12 (by decide) ?_
    refine v_w (wS_id _ 20 0).symm ?_
    refine v_tS C 185 0 (by decide) ?_
    refine v_w (w2 := (wS (wS w 20 0 (w 20 0)) 185 0 (fun _ => (w 185 0 0)))) (by simp only [wS_s, wS_t, wS_a, ne_eq, Nat.reduceEqDiff, not_false_eq_true, wS_wS, wS_p, wS_pp, Nat.reduceLT, id_eq]) ?_
    exact v_iret C dX1_findSuspects_13 ⟨(by clear C; rw [if_pos (by grind)]), (congr (congrArg Prod.mk (wS_eq (wS_eq rfl (by clear C; rw [if_pos (by grind)])) (fu_eq (by clear C; rw [if_pos (by grind)])))) rfl)⟩
  · refine v_iload_n C 1 dX1_findSuspects_4 rfl ?_
    refine v_aload_n C 0 dX1_findSuspects_5 rfl ?_
    refine v_gI C 1 0 0 180 (w 180 0 0) (C_m C (u_1 0 (by decide))) k_1 (by decide) rfl rfl x_474 rfl dX1_findSuspects_6 ?_
    refine v_ic_lt C 14 dX1_findSuspects_9 (by decide) (fun c_9 => ?_) (fun c_9 => ?_)
    · refine v_aload_n C 0 dX1_findSuspects_14 rfl ?_
      refine v_iconst (v := 0) C dX1_findSuspects_15 (by decide) ?_
      refine v_pI C 1 0 5 185 (C_m C (u_1 0 (by decide))) k_1 ty_1 (by decide) rfl ⟨rfl, rfl⟩ x_480 rfl rfl dX1_findSuspects_16 ?_
      refine v_iconst (v := 0) C dX1_findSuspects_19 (by decide) ?_
      refine v_istore_n (lv2 := [(2, .int 0), (0, .ref (E.ad 1 0)), (1, .int d)]) C dX1_findSuspects_20 rfl (by decide) rfl ?_
      have hL21 : ∀ (n_ : Nat) (i : Int32) (F : Row) (n : Int32), (40 - i).toNatClampNeg < n_ → (0 ≤ i ∧ i ≤ 40 ∧ 0 ≤ n ∧ n ≤ i ∧ fsR (lsF (z 17 0) (z 18 0) (w 19 0) d) (w 20 0) i.toNatClampNeg = (F, n)) → V K E A 3 (QI K E A (P_X1_findSuspects w z d)) 21 [(2, .int i), (0, .ref (E.ad 1 0)), (1, .int d)] [] (wS (wS w 20 0 F) 185 0 (fun _ => n)) z := by
        intro n_
        induction n_ with
        | zero => intro i F n hm_; exact absurd hm_ (Nat.not_lt_zero _)
        | succ n_ ih_21 =>
          intro i F n hm_ hinv
          obtain ⟨g1, g2, g3, g4, g5⟩ := hinv
          refine v_iload_n C 0 dX1_findSuspects_21 rfl ?_
          refine v_bipush (v := 40) C dX1_findSuspects_22 (by decide) ?_
          refine v_ic_ge C 72 dX1_findSuspects_24 (by decide) (fun c_24 => ?_) (fun c_24 => ?_)
          · refine v_aload_n C 1 dX1_findSuspects_72 rfl ?_
            refine v_gI C 1 0 5 185 n (C_m C (u_1 0 (by decide))) k_1 (by decide) rfl rfl x_480 (by simp only [wS_s, wS_t, wS_a, ne_eq, Nat.reduceEqDiff, not_false_eq_true]) dX1_findSuspects_73 ?_
            have hi : i = 40 := (by grind)
            subst hi
            have g6 : fsR (lsF (z 17 0) (z 18 0) (w 19 0) d) (w 20 0) 40 = (F, n) := g5
            exact v_iret C dX1_findSuspects_76 ⟨(by clear C ih_21; rw [if_neg (by grind), g6]), (congr (congrArg Prod.mk (wS_eq (wS_eq rfl (by clear C ih_21; rw [if_neg (by grind), g6])) (fu_eq (by clear C ih_21; rw [if_neg (by grind), g6])))) rfl)⟩
          · refine v_aload_n C 1 dX1_findSuspects_27 rfl ?_
            refine v_iload_n C 0 dX1_findSuspects_28 rfl ?_
            refine v_iload_n C 2 dX1_findSuspects_29 rfl ?_
            refine v_vI C 1 0 [.int i, .int d] 2 (c_X1_latestStart E hE _ _  i d  (by clear C ih_21; (try simp only [wS_s, wS_t, wS_a, ne_eq, Nat.reduceEqDiff, not_false_eq_true]); grind) (by clear C ih_21; (try simp only [wS_s, wS_t, wS_a, ne_eq, Nat.reduceEqDiff, not_false_eq_true]); grind)) m_X1_latestStart x_1117 x_1119 x_31 p_X1_latestStart rfl ⟨Nat.le_of_ble_eq_true rfl, Nat.le_of_ble_eq_true rfl⟩ (C_m C (u_1 0 (by decide))) k_1 rfl (Nat.le_of_ble_eq_true rfl) dX1_findSuspects_30 (fun r1 u1 v1 hp1 => ?_)
            obtain ⟨hr1, hu1⟩ := hp1
            subst hr1
            cases hu1
            refine v_i (y := lsR (exF (z 17 0) (z 18 0) (w 19 0) i d) (d + 1).toNatClampNeg) (by simp only [wS_s, wS_t, wS_a, ne_eq, Nat.reduceEqDiff, not_false_eq_true]) ?_
            refine v_iconst (v := (-1)) C dX1_findSuspects_33 (by decide) ?_
            refine v_ic_eq C 66 dX1_findSuspects_34 (by decide) (fun c_34 => ?_) (fun c_34 => ?_)
            · refine v_iinc (v := i + 1) (lv2 := [(2, .int (i + 1)), (0, .ref (E.ad 1 0)), (1, .int d)]) C 0 dX1_findSuspects_66 rfl rfl (by decide) rfl ?_
              refine v_goto C 21 dX1_findSuspects_69 (by decide) ?_
              exact ih_21 (i + 1) F n (by clear C ih_21; exact Nat.lt_of_lt_of_le (m_up (by grind) (by grind)) (Nat.le_of_lt_succ hm_)) (by clear C ih_21; exact ⟨by grind, by grind, by grind, by grind, by rw [cl_succ g1 (by grind)]; simp only [fsR, g5]; have e2 : lsF (z 17 0) (z 18 0) (w 19 0) d i.toNatClampNeg = lsR (exF (z 17 0) (z 18 0) (w 19 0) i d) (d + 1).toNatClampNeg := (by simp only [lsF, nI_cl g1]); rw [e2]; first | rw [if_neg (not_not_intro (by assumption))] | rw [if_pos (by assumption), nI_cl g1]⟩)
            · refine v_aload_n C 1 dX1_findSuspects_37 rfl ?_
              refine v_gI C 1 0 5 185 n (C_m C (u_1 0 (by decide))) k_1 (by decide) rfl rfl x_480 (by simp only [wS_s, wS_t, wS_a, ne_eq, Nat.reduceEqDiff, not_false_eq_true]) dX1_findSuspects_38 ?_
              refine v_bipush (v := 40) C dX1_findSuspects_41 (by decide) ?_
              refine v_ic_ge C 66 dX1_findSuspects_43 (by decide) (fun c_43 => absurd c_43 (by clear C ih_21; grind)) (fun c_43 => ?_)
              refine v_aload_n C 1 dX1_findSuspects_46 rfl ?_
              refine v_gR C 1 0 4 20 0 (C_m C (u_1 0 (by decide))) k_1 (by decide) x_479 (fun _ _ _ => rfl) dX1_findSuspects_47 ?_
              refine v_aload_n C 1 dX1_findSuspects_50 rfl ?_
              refine v_gI C 1 0 5 185 n (C_m C (u_1 0 (by decide))) k_1 (by decide) rfl rfl x_480 (by simp only [wS_s, wS_t, wS_a, ne_eq, Nat.reduceEqDiff, not_false_eq_true]) dX1_findSuspects_51 ?_
              refine v_iload_n C 0 dX1_findSuspects_54 rfl ?_
              refine v_iast C 20 0 (C_m C (u_20 0 (by decide))) ⟨by decide, rfl, rfl⟩ (v_in (N := 40) (by decide) (by clear C ih_21; grind) (by clear C ih_21; grind)) dX1_findSuspects_55 ?_
              refine v_aload_n C 1 dX1_findSuspects_56 rfl ?_
              refine v_dup C dX1_findSuspects_57 rfl ?_
              refine v_gI C 1 0 5 185 n (C_m C (u_1 0 (by decide))) k_1 (by decide) rfl rfl x_480 (by simp only [wS_s, wS_t, wS_a, ne_eq, Nat.reduceEqDiff, not_false_eq_true]) dX1_findSuspects_58 ?_
              refine v_iconst (v := 1) C dX1_findSuspects_61 (by decide) ?_
              refine v_iadd C dX1_findSuspects_62 ?_
              refine v_pI C 1 0 5 185 (C_m C (u_1 0 (by decide))) k_1 ty_1 (by decide) rfl ⟨rfl, rfl⟩ x_480 rfl rfl dX1_findSuspects_63 ?_
              refine v_iinc (v := i + 1) (lv2 := [(2, .int (i + 1)), (0, .ref (E.ad 1 0)), (1, .int d)]) C 0 dX1_findSuspects_66 rfl rfl (by decide) rfl ?_
              refine v_goto C 21 dX1_findSuspects_69 (by decide) ?_
              refine v_w (w2 := (wS (wS w 20 0 (upd F n.toNatClampNeg i)) 185 0 (fun _ => (n + 1)))) (by simp only [wS_s, wS_t, wS_a, ne_eq, Nat.reduceEqDiff, not_false_eq_true, wS_wS, wS_p, wS_pp, Nat.reduceLT, id_eq]) ?_
              exact ih_21 (i + 1) (upd F n.toNatClampNeg i) (n + 1) (by clear C ih_21; exact Nat.lt_of_lt_of_le (m_up (by grind) (by grind)) (Nat.le_of_lt_succ hm_)) (by clear C ih_21; exact ⟨by grind, by grind, by grind, by grind, by rw [cl_succ g1 (by grind)]; simp only [fsR, g5]; have e2 : lsF (z 17 0) (z 18 0) (w 19 0) d i.toNatClampNeg = lsR (exF (z 17 0) (z 18 0) (w 19 0) i d) (d + 1).toNatClampNeg := (by simp only [lsF, nI_cl g1]); rw [e2]; first | rw [if_neg (not_not_intro (by assumption))] | rw [if_pos (by assumption), nI_cl g1]⟩)
      refine v_w (wS_id _ 20 0).symm ?_
      refine v_w (w2 := (wS (wS w 20 0 (w 20 0)) 185 0 (fun _ => 0))) (by simp only [wS_s, wS_t, wS_a, ne_eq, Nat.reduceEqDiff, not_false_eq_true, wS_wS, wS_p, wS_pp, Nat.reduceLT, id_eq]) ?_
      exact hL21 _ 0 (w 20 0) 0 (Nat.lt_succ_self _) (by clear C hL21; exact ⟨by decide, by decide, by decide, by decide, rfl⟩)
    · refine v_iconst (v := (-1)) C dX1_findSuspects_12 (by decide) ?_
      refine v_w (wS_id _ 20 0).symm ?_
      refine v_tS C 185 0 (by decide) ?_
      refine v_w (w2 := (wS (wS w 20 0 (w 20 0)) 185 0 (fun _ => (w 185 0 0)))) (by simp only [wS_s, wS_t, wS_a, ne_eq, Nat.reduceEqDiff, not_false_eq_true, wS_wS, wS_p, wS_pp, Nat.reduceLT, id_eq]) ?_
      exact v_iret C dX1_findSuspects_13 ⟨(by clear C; rw [if_pos (by grind)]), (congr (congrArg Prod.mk (wS_eq (wS_eq rfl (by clear C; rw [if_pos (by grind)])) (fu_eq (by clear C; rw [if_pos (by grind)])))) rfl)⟩
abbrev P_X1_foresee (w : Wi) (z : Wj) (row : Int64) : Int32 → WW → Prop := fun r_ u_ => r_ = (if row = 0 ∨ (w 180 0 0) = 0 then (-1) else if (foR (lsF (z 17 0) (z 18 0) (w 19 0) ((w 180 0 0) - 1)) (fun k => inB row (nI k) ≠ 0 ∧ bsR (z 18 0) (nI k) ((w 180 0 0) - lsF (z 17 0) (z 18 0) (w 19 0) ((w 180 0 0) - 1) k).toNatClampNeg (lsF (z 17 0) (z 18 0) (w 19 0) ((w 180 0 0) - 1) k).toNatClampNeg ≠ 0) 40).1 = 0 then (-1) else if (foR (lsF (z 17 0) (z 18 0) (w 19 0) ((w 180 0 0) - 1)) (fun k => inB row (nI k) ≠ 0 ∧ bsR (z 18 0) (nI k) ((w 180 0 0) - lsF (z 17 0) (z 18 0) (w 19 0) ((w 180 0 0) - 1) k).toNatClampNeg (lsF (z 17 0) (z 18 0) (w 19 0) ((w 180 0 0) - 1) k).toNatClampNeg ≠ 0) 40).2 = 0 then 0 else if (foR (lsF (z 17 0) (z 18 0) (w 19 0) ((w 180 0 0) - 1)) (fun k => inB row (nI k) ≠ 0 ∧ bsR (z 18 0) (nI k) ((w 180 0 0) - lsF (z 17 0) (z 18 0) (w 19 0) ((w 180 0 0) - 1) k).toNatClampNeg (lsF (z 17 0) (z 18 0) (w 19 0) ((w 180 0 0) - 1) k).toNatClampNeg ≠ 0) 40).2 = (foR (lsF (z 17 0) (z 18 0) (w 19 0) ((w 180 0 0) - 1)) (fun k => inB row (nI k) ≠ 0 ∧ bsR (z 18 0) (nI k) ((w 180 0 0) - lsF (z 17 0) (z 18 0) (w 19 0) ((w 180 0 0) - 1) k).toNatClampNeg (lsF (z 17 0) (z 18 0) (w 19 0) ((w 180 0 0) - 1) k).toNatClampNeg ≠ 0) 40).1 then 1 else 2) ∧ u_ = (w, z)
set_option maxHeartbeats 4000000 in
set_option maxRecDepth 100000 in
theorem c_X1_foresee (E : En) (hE : q_ok E) (w : Wi) (z : Wj) (row : Int64) (h1 : (w 180 0 0) ≤ 40) (h2 : 0 ≤ (w 180 0 0)) : CtI M_X1_foresee E [.ref (E.ad 1 0), .long row] w z (P_X1_foresee w z row) := by
  refine ctI_of (lv := [(0, .ref (E.ad 1 0)), (1, .long row)]) hE m_X1_foresee (Nat.le_of_ble_eq_true rfl) rfl ?_
  intro K A C0
  have C : Cx K E A cX1_foresee 7 RX1 (some .int) { frames := 3, cells := 0, slots := 0, locals := 70 } := C0
  clear C0
  refine v_lload_n C 1 dX1_foresee_0 rfl ?_
  refine v_lconst (v := 0) C dX1_foresee_1 (by decide) ?_
  refine v_lcmp C dX1_foresee_2 ?_
  refine v_if_eq C 13 dX1_foresee_3 (by decide) (fun c_3 => ?_) (fun c_3 => ?_)
  · rw [lg_cmp_eq] at c_3
    refine v_iconst (v := (-1)) C dX1_foresee_13 (by decide) ?_
    exact v_iret C dX1_foresee_14 ⟨(by clear C; rw [if_pos (by grind)]), (congr (congrArg Prod.mk rfl) rfl)⟩
  · rw [lg_cmp_eq] at c_3
    refine v_aload_n C 0 dX1_foresee_6 rfl ?_
    refine v_gI C 1 0 0 180 (w 180 0 0) (C_m C (u_1 0 (by decide))) k_1 (by decide) rfl rfl x_474 rfl dX1_foresee_7 ?_
    refine v_if_ne C 15 dX1_foresee_10 (by decide) (fun c_10 => ?_) (fun c_10 => ?_)
    · refine v_iconst (v := 0) C dX1_foresee_15 (by decide) ?_
      refine v_istore_n (lv2 := [(3, .int 0), (0, .ref (E.ad 1 0)), (1, .long row)]) C dX1_foresee_16 rfl (by decide) rfl ?_
      refine v_iconst (v := 0) C dX1_foresee_17 (by decide) ?_
      refine v_istore (lv2 := [(4, .int 0), (3, .int 0), (0, .ref (E.ad 1 0)), (1, .long row)]) C dX1_foresee_18 (by decide) rfl ?_
      refine v_iconst (v := 0) C dX1_foresee_20 (by decide) ?_
      refine v_istore (lv2 := [(5, .int 0), (4, .int 0), (3, .int 0), (0, .ref (E.ad 1 0)), (1, .long row)]) C dX1_foresee_21 (by decide) rfl ?_
      have hL23 : ∀ (n_ : Nat) (al : Int32) (ho : Int32) (i : Int32), (40 - i).toNatClampNeg < n_ → (0 ≤ i ∧ i ≤ 40 ∧ foR (lsF (z 17 0) (z 18 0) (w 19 0) ((w 180 0 0) - 1)) (fun k => inB row (nI k) ≠ 0 ∧ bsR (z 18 0) (nI k) ((w 180 0 0) - lsF (z 17 0) (z 18 0) (w 19 0) ((w 180 0 0) - 1) k).toNatClampNeg (lsF (z 17 0) (z 18 0) (w 19 0) ((w 180 0 0) - 1) k).toNatClampNeg ≠ 0) i.toNatClampNeg = (al, ho)) → V K E A 7 (QI K E A (P_X1_foresee w z row)) 23 [(5, .int i), (4, .int ho), (3, .int al), (0, .ref (E.ad 1 0)), (1, .long row)] [] w z := by
        intro n_
        induction n_ with
        | zero => intro al ho i hm_; exact absurd hm_ (Nat.not_lt_zero _)
        | succ n_ ih_23 =>
          intro al ho i hm_ hinv
          obtain ⟨g1, g2, g3⟩ := hinv
          refine v_iload C 0 dX1_foresee_23 rfl ?_
          refine v_bipush (v := 40) C dX1_foresee_25 (by decide) ?_
          refine v_ic_ge C 82 dX1_foresee_27 (by decide) (fun c_27 => ?_) (fun c_27 => ?_)
          · refine v_iload_n C 2 dX1_foresee_82 rfl ?_
            refine v_if_ne C 88 dX1_foresee_83 (by decide) (fun c_83 => ?_) (fun c_83 => ?_)
            · refine v_iload C 1 dX1_foresee_88 rfl ?_
              refine v_if_ne C 97 dX1_foresee_90 (by decide) (fun c_90 => ?_) (fun c_90 => ?_)
              · refine v_iload C 1 dX1_foresee_97 rfl ?_
                refine v_iload_n C 2 dX1_foresee_99 rfl ?_
                refine v_ic_ne C 107 dX1_foresee_100 (by decide) (fun c_100 => ?_) (fun c_100 => ?_)
                · refine v_iconst (v := 2) C dX1_foresee_107 (by decide) ?_
                  exact v_iret C dX1_foresee_108 ⟨(by clear C ih_23; have hi : i = 40 := (by grind); subst hi; have g6 : (foR (lsF (z 17 0) (z 18 0) (w 19 0) ((w 180 0 0) - 1)) (fun k => inB row (nI k) ≠ 0 ∧ bsR (z 18 0) (nI k) ((w 180 0 0) - lsF (z 17 0) (z 18 0) (w 19 0) ((w 180 0 0) - 1) k).toNatClampNeg (lsF (z 17 0) (z 18 0) (w 19 0) ((w 180 0 0) - 1) k).toNatClampNeg ≠ 0) 40) = (al, ho) := g3; rw [g6]; grind), (congr (congrArg Prod.mk rfl) rfl)⟩
                · refine v_iconst (v := 1) C dX1_foresee_103 (by decide) ?_
                  refine v_goto C 108 dX1_foresee_104 (by decide) ?_
                  exact v_iret C dX1_foresee_108 ⟨(by clear C ih_23; have hi : i = 40 := (by grind); subst hi; have g6 : (foR (lsF (z 17 0) (z 18 0) (w 19 0) ((w 180 0 0) - 1)) (fun k => inB row (nI k) ≠ 0 ∧ bsR (z 18 0) (nI k) ((w 180 0 0) - lsF (z 17 0) (z 18 0) (w 19 0) ((w 180 0 0) - 1) k).toNatClampNeg (lsF (z 17 0) (z 18 0) (w 19 0) ((w 180 0 0) - 1) k).toNatClampNeg ≠ 0) 40) = (al, ho) := g3; rw [g6]; grind), (congr (congrArg Prod.mk rfl) rfl)⟩
              · refine v_iconst (v := 0) C dX1_foresee_93 (by decide) ?_
                refine v_goto C 108 dX1_foresee_94 (by decide) ?_
                exact v_iret C dX1_foresee_108 ⟨(by clear C ih_23; have hi : i = 40 := (by grind); subst hi; have g6 : (foR (lsF (z 17 0) (z 18 0) (w 19 0) ((w 180 0 0) - 1)) (fun k => inB row (nI k) ≠ 0 ∧ bsR (z 18 0) (nI k) ((w 180 0 0) - lsF (z 17 0) (z 18 0) (w 19 0) ((w 180 0 0) - 1) k).toNatClampNeg (lsF (z 17 0) (z 18 0) (w 19 0) ((w 180 0 0) - 1) k).toNatClampNeg ≠ 0) 40) = (al, ho) := g3; rw [g6]; grind), (congr (congrArg Prod.mk rfl) rfl)⟩
            · refine v_iconst (v := (-1)) C dX1_foresee_86 (by decide) ?_
              exact v_iret C dX1_foresee_87 ⟨(by clear C ih_23; have hi : i = 40 := (by grind); subst hi; have g6 : (foR (lsF (z 17 0) (z 18 0) (w 19 0) ((w 180 0 0) - 1)) (fun k => inB row (nI k) ≠ 0 ∧ bsR (z 18 0) (nI k) ((w 180 0 0) - lsF (z 17 0) (z 18 0) (w 19 0) ((w 180 0 0) - 1) k).toNatClampNeg (lsF (z 17 0) (z 18 0) (w 19 0) ((w 180 0 0) - 1) k).toNatClampNeg ≠ 0) 40) = (al, ho) := g3; rw [g6]; grind), (congr (congrArg Prod.mk rfl) rfl)⟩
          · refine v_aload_n C 3 dX1_foresee_30 rfl ?_
            refine v_iload C 0 dX1_foresee_31 rfl ?_
            refine v_aload_n C 3 dX1_foresee_33 rfl ?_
            refine v_gI C 1 0 0 180 (w 180 0 0) (C_m C (u_1 0 (by decide))) k_1 (by decide) rfl rfl x_474 rfl dX1_foresee_34 ?_
            refine v_iconst (v := 1) C dX1_foresee_37 (by decide) ?_
            refine v_isub C dX1_foresee_38 ?_
            refine v_vI C 1 0 [.int i, .int ((w 180 0 0) - 1)] 2 (c_X1_latestStart E hE _ _  i ((w 180 0 0) - 1)  (by clear C ih_23; grind) (by clear C ih_23; grind)) m_X1_latestStart x_1117 x_1119 x_31 p_X1_latestStart rfl ⟨Nat.le_of_ble_eq_true rfl, Nat.le_of_ble_eq_true rfl⟩ (C_m C (u_1 0 (by decide))) k_1 rfl (Nat.le_of_ble_eq_true rfl) dX1_foresee_39 (fun r1 u1 v1 hp1 => ?_)
            obtain ⟨hr1, hu1⟩ := hp1
            subst hr1
            cases hu1
            refine v_istore (lv2 := [(6, .int (lsR (exF (z 17 0) (z 18 0) (w 19 0) i ((w 180 0 0) - 1)) (((w 180 0 0) - 1) + 1).toNatClampNeg)), (5, .int i), (4, .int ho), (3, .int al), (0, .ref (E.ad 1 0)), (1, .long row)]) C dX1_foresee_42 (by decide) rfl ?_
            refine v_iload C 0 dX1_foresee_44 rfl ?_
            refine v_iconst (v := (-1)) C dX1_foresee_46 (by decide) ?_
            refine v_ic_eq C 76 dX1_foresee_47 (by decide) (fun c_47 => ?_) (fun c_47 => ?_)
            · refine v_iinc (v := i + 1) (lv2 := [(5, .int (i + 1)), (6, .int (lsR (exF (z 17 0) (z 18 0) (w 19 0) i ((w 180 0 0) - 1)) (((w 180 0 0) - 1) + 1).toNatClampNeg)), (4, .int ho), (3, .int al), (0, .ref (E.ad 1 0)), (1, .long row)]) C 1 dX1_foresee_76 rfl rfl (by decide) rfl ?_
              refine v_goto C 23 dX1_foresee_79 (by decide) ?_
              refine v_l [0, 2, 3, 4, 5] rfl ?_
              exact ih_23 al ho (i + 1) (by clear C ih_23; exact Nat.lt_of_lt_of_le (m_up (by grind) (by grind)) (Nat.le_of_lt_succ hm_)) (by clear C ih_23; exact ⟨by grind, by grind, by rw [cl_succ g1 (by grind)]; simp only [foR, g3]; have e := nI_cl g1; rw [e]; grind⟩)
            · refine v_iinc (v := al + 1) (lv2 := [(3, .int (al + 1)), (6, .int (lsR (exF (z 17 0) (z 18 0) (w 19 0) i ((w 180 0 0) - 1)) (((w 180 0 0) - 1) + 1).toNatClampNeg)), (5, .int i), (4, .int ho), (0, .ref (E.ad 1 0)), (1, .long row)]) C 3 dX1_foresee_50 rfl rfl (by decide) rfl ?_
              refine v_lload_n C 5 dX1_foresee_53 rfl ?_
              refine v_iload C 2 dX1_foresee_54 rfl ?_
              refine v_sI C [.long row, .int i] 2 (c_X1_isIn E hE _ _  row i  ) m_X1_isIn x_1094 x_1095 p_X1_isIn rfl ⟨Nat.le_of_ble_eq_true rfl, Nat.le_of_ble_eq_true rfl⟩ rfl (Nat.le_of_ble_eq_true rfl) dX1_foresee_56 (fun r2 u2 v2 hp2 => ?_)
              obtain ⟨hr2, hu2⟩ := hp2
              subst hr2
              cases hu2
              refine v_if_eq C 76 dX1_foresee_59 (by decide) (fun c_59 => ?_) (fun c_59 => ?_)
              · refine v_iinc (v := i + 1) (lv2 := [(5, .int (i + 1)), (3, .int (al + 1)), (6, .int (lsR (exF (z 17 0) (z 18 0) (w 19 0) i ((w 180 0 0) - 1)) (((w 180 0 0) - 1) + 1).toNatClampNeg)), (4, .int ho), (0, .ref (E.ad 1 0)), (1, .long row)]) C 2 dX1_foresee_76 rfl rfl (by decide) rfl ?_
                refine v_goto C 23 dX1_foresee_79 (by decide) ?_
                refine v_l [0, 3, 1, 4, 5] rfl ?_
                exact ih_23 (al + 1) ho (i + 1) (by clear C ih_23; exact Nat.lt_of_lt_of_le (m_up (by grind) (by grind)) (Nat.le_of_lt_succ hm_)) (by clear C ih_23; exact ⟨by grind, by grind, by rw [cl_succ g1 (by grind)]; simp only [foR, g3]; have e := nI_cl g1; rw [e]; grind⟩)
              · refine v_aload_n C 4 dX1_foresee_62 rfl ?_
                refine v_iload C 2 dX1_foresee_63 rfl ?_
                refine v_iload C 1 dX1_foresee_65 rfl ?_
                refine v_vI C 1 0 [.int i, .int (lsR (exF (z 17 0) (z 18 0) (w 19 0) i ((w 180 0 0) - 1)) (((w 180 0 0) - 1) + 1).toNatClampNeg)] 2 (c_X1_isBadStill E hE _ _  i (lsR (exF (z 17 0) (z 18 0) (w 19 0) i ((w 180 0 0) - 1)) (((w 180 0 0) - 1) + 1).toNatClampNeg)  (by clear C ih_23; have q := lsR_c (exF (z 17 0) (z 18 0) (w 19 0) i ((w 180 0 0) - 1)) (n := (w 180 0 0) - 1 + 1) (by grind); grind) (by clear C ih_23; have q := lsR_c (exF (z 17 0) (z 18 0) (w 19 0) i ((w 180 0 0) - 1)) (n := (w 180 0 0) - 1 + 1) (by grind); grind) (by clear C ih_23; have q := lsR_c (exF (z 17 0) (z 18 0) (w 19 0) i ((w 180 0 0) - 1)) (n := (w 180 0 0) - 1 + 1) (by grind); grind)) m_X1_isBadStill x_1141 x_1143 x_33 p_X1_isBadStill rfl ⟨Nat.le_of_ble_eq_true rfl, Nat.le_of_ble_eq_true rfl⟩ (C_m C (u_1 0 (by decide))) k_1 rfl (Nat.le_of_ble_eq_true rfl) dX1_foresee_67 (fun r3 u3 v3 hp3 => ?_)
                obtain ⟨hr3, hu3⟩ := hp3
                subst hr3
                cases hu3
                refine v_if_eq C 76 dX1_foresee_70 (by decide) (fun c_70 => ?_) (fun c_70 => ?_)
                · refine v_iinc (v := i + 1) (lv2 := [(5, .int (i + 1)), (3, .int (al + 1)), (6, .int (lsR (exF (z 17 0) (z 18 0) (w 19 0) i ((w 180 0 0) - 1)) (((w 180 0 0) - 1) + 1).toNatClampNeg)), (4, .int ho), (0, .ref (E.ad 1 0)), (1, .long row)]) C 2 dX1_foresee_76 rfl rfl (by decide) rfl ?_
                  refine v_goto C 23 dX1_foresee_79 (by decide) ?_
                  refine v_l [0, 3, 1, 4, 5] rfl ?_
                  exact ih_23 (al + 1) ho (i + 1) (by clear C ih_23; exact Nat.lt_of_lt_of_le (m_up (by grind) (by grind)) (Nat.le_of_lt_succ hm_)) (by clear C ih_23; exact ⟨by grind, by grind, by rw [cl_succ g1 (by grind)]; simp only [foR, g3]; have e := nI_cl g1; rw [e]; grind⟩)
                · refine v_iinc (v := ho + 1) (lv2 := [(4, .int (ho + 1)), (3, .int (al + 1)), (6, .int (lsR (exF (z 17 0) (z 18 0) (w 19 0) i ((w 180 0 0) - 1)) (((w 180 0 0) - 1) + 1).toNatClampNeg)), (5, .int i), (0, .ref (E.ad 1 0)), (1, .long row)]) C 3 dX1_foresee_73 rfl rfl (by decide) rfl ?_
                  refine v_iinc (v := i + 1) (lv2 := [(5, .int (i + 1)), (4, .int (ho + 1)), (3, .int (al + 1)), (6, .int (lsR (exF (z 17 0) (z 18 0) (w 19 0) i ((w 180 0 0) - 1)) (((w 180 0 0) - 1) + 1).toNatClampNeg)), (0, .ref (E.ad 1 0)), (1, .long row)]) C 3 dX1_foresee_76 rfl rfl (by decide) rfl ?_
                  refine v_goto C 23 dX1_foresee_79 (by decide) ?_
                  refine v_l [0, 1, 2, 4, 5] rfl ?_
                  exact ih_23 (al + 1) (ho + 1) (i + 1) (by clear C ih_23; exact Nat.lt_of_lt_of_le (m_up (by grind) (by grind)) (Nat.le_of_lt_succ hm_)) (by clear C ih_23; exact ⟨by grind, by grind, by rw [cl_succ g1 (by grind)]; simp only [foR, g3]; have e := nI_cl g1; rw [e]; grind⟩)
      exact hL23 _ 0 0 0 (Nat.lt_succ_self _) (by clear C hL23; exact ⟨by decide, by decide, rfl⟩)
    · refine v_iconst (v := (-1)) C dX1_foresee_13 (by decide) ?_
      exact v_iret C dX1_foresee_14 ⟨(by clear C; rw [if_pos (by grind)]), (congr (congrArg Prod.mk rfl) rfl)⟩
