abbrev P_X12_wagons (w : Wi) (z : Wj) : Int64 → WW → Prop := fun r_ u_ => r_ = ((if (w 1062 0 0) < 1 ∨ 16 < (w 1062 0 0) then 0 else rowR (w 41 0) ((w 1062 0 0)).toNatClampNeg 0 0)) ∧ u_ = ((wS w 1062 0 (fun _ => 0)), z)
set_option maxHeartbeats 4000000 in
set_option maxRecDepth 100000 in
theorem c_X12_wagons (E : En) (hM : q_okM E) (w : Wi) (z : Wj) (h1 : 0 ≤ (w 1062 0 0)) (h2 : (w 1062 0 0) ≤ 740) (h3 : ∀ k, k < ((w 1062 0 0)).toNatClampNeg → 0 ≤ (w 41 0) k) : CtJ M_X12_wagons E [.ref (E.ad 12 0)] w z (P_X12_wagons w z) := by
  have hE := hM.1
  refine ctJ_of (lv := [(0, .ref (E.ad 12 0))]) hE m_X12_wagons (Nat.le_of_ble_eq_true rfl) rfl ?_
  intro K A C0
  have C : Cx K E A cX12_wagons 5 RX12 (some .long) { frames := 1, cells := 0, slots := 0, locals := 22 } := C0
  clear C0
  refine v_aload_n C 0 dX12_wagons_0 rfl ?_
  refine v_vI C 12 0 [] 0 (c_X12_take E hM _ _    ) m_X12_take x_1483 x_1485 x_37 p_X12_take rfl ⟨Nat.le_of_ble_eq_true rfl, Nat.le_of_ble_eq_true rfl⟩ (hM.2 _ (u_12 0 (by decide))) k_12 rfl (Nat.le_of_ble_eq_true rfl) dX12_wagons_1 (fun r1 u1 v1 hp1 => ?_)
  obtain ⟨hr1, hu1⟩ := hp1
  subst hr1
  cases hu1
  refine v_istore_n (lv2 := [(1, .int (w 1062 0 0)), (0, .ref (E.ad 12 0))]) C dX12_wagons_4 rfl (by decide) rfl ?_
  refine v_iload_n C 0 dX12_wagons_5 rfl ?_
  refine v_iconst (v := 1) C dX12_wagons_6 (by decide) ?_
  refine v_bipush (v := 16) C dX12_wagons_7 (by decide) ?_
  refine v_sI C [.int (w 1062 0 0), .int 1, .int 16] 3 (c_X12_isIn E hM _ _  (w 1062 0 0) 1 16  ) m_X12_isIn x_1530 x_1531 p_X12_isIn rfl ⟨Nat.le_of_ble_eq_true rfl, Nat.le_of_ble_eq_true rfl⟩ rfl (Nat.le_of_ble_eq_true rfl) dX12_wagons_9 (fun r2 u2 v2 hp2 => ?_)
  obtain ⟨hr2, hu2⟩ := hp2
  subst hr2
  cases hu2
  refine v_if_ne C 17 dX12_wagons_12 (by decide) (fun c_12 => ?_) (fun c_12 => ?_)
  · refine v_lconst (v := 0) C dX12_wagons_17 (by decide) ?_
    refine v_lstore_n (lv2 := [(2, .long 0), (1, .int (w 1062 0 0)), (0, .ref (E.ad 12 0))]) C dX12_wagons_18 rfl (by decide) rfl ?_
    refine v_iconst (v := 0) C dX12_wagons_19 (by decide) ?_
    refine v_istore (lv2 := [(4, .int 0), (2, .long 0), (1, .int (w 1062 0 0)), (0, .ref (E.ad 12 0))]) C dX12_wagons_20 (by decide) rfl ?_
    have hL22 : ∀ (n_ : Nat) (acc : Int64) (i : Int32), (17 - i).toNatClampNeg < n_ → (0 ≤ i ∧ i ≤ (w 1062 0 0) ∧ (w 1062 0 0) ≤ 16 ∧ 1 ≤ (w 1062 0 0) ∧ rowR (w 41 0) ((w 1062 0 0) - i).toNatClampNeg i.toNatClampNeg acc = rowR (w 41 0) (w 1062 0 0).toNatClampNeg 0 0) → V K E A 5 (QJ K E A (P_X12_wagons w z)) 22 [(4, .int i), (2, .long acc), (1, .int (w 1062 0 0)), (0, .ref (E.ad 12 0))] [] (wS w 1062 0 (fun _ => 0)) z := by
      intro n_
      induction n_ with
      | zero => intro acc i hm_; exact absurd hm_ (Nat.not_lt_zero _)
      | succ n_ ih_22 =>
        intro acc i hm_ hinv
        obtain ⟨g1, g2, g4, g5, g3⟩ := hinv
        have g6 : i < (w 1062 0 0) → 0 ≤ (w 41 0) i.toNatClampNeg := fun q => h3 _ ((cl_lt g1 h1).mpr q)
        refine v_iload C 0 dX12_wagons_22 rfl ?_
        refine v_iload_n C 2 dX12_wagons_24 rfl ?_
        refine v_ic_ge C 76 dX12_wagons_25 (by decide) (fun c_25 => ?_) (fun c_25 => ?_)
        · refine v_lload_n C 1 dX12_wagons_76 rfl ?_
          exact v_lret C dX12_wagons_77 ⟨(by clear C ih_22; rw [if_neg (by clear g3 h3; grind), ← g3, show (w 1062 0 0) - i = 0 by clear g3 h3; grind]; rfl), (congr (congrArg Prod.mk rfl) rfl)⟩
        · refine v_aload_n C 3 dX12_wagons_28 rfl ?_
          refine v_gR C 12 0 1 41 0 (hM.2 _ (u_12 0 (by decide))) k_12 (by decide) x_1243 (fun _ _ _ => rfl) dX12_wagons_29 ?_
          refine v_iload C 0 dX12_wagons_32 rfl ?_
          refine v_iald C 41 0 (hM.2 _ (u_41 0 (by decide))) ⟨by decide, rfl, rfl⟩ (by exact v_in (N := 740) (by decide) (by clear g3 h3; grind) (by clear g3 h3; grind)) dX12_wagons_34 ?_
          refine v_i (y := ((w 41 0) i.toNatClampNeg)) (by simp only [wS_s, wS_t, wS_a, ne_eq, Nat.reduceEqDiff, not_false_eq_true, L7_1]) ?_
          refine v_bipush (v := 40) C dX12_wagons_35 (by decide) ?_
          refine v_ic_ge C 56 dX12_wagons_37 (by decide) (fun c_37 => ?_) (fun c_37 => ?_)
          · refine v_lconst (v := 0) C dX12_wagons_56 (by decide) ?_
            exact v_lret C dX12_wagons_57 ⟨(by clear C ih_22; rw [if_neg (by clear g3 h3; grind), ← g3, m_dnn g1 (by clear g3 h3; grind), rowR_0 (by simp only [inB]; clear g3 h3; grind)]), (congr (congrArg Prod.mk rfl) rfl)⟩
          · refine v_lload_n C 1 dX12_wagons_40 rfl ?_
            refine v_aload_n C 3 dX12_wagons_41 rfl ?_
            refine v_gR C 12 0 1 41 0 (hM.2 _ (u_12 0 (by decide))) k_12 (by decide) x_1243 (fun _ _ _ => rfl) dX12_wagons_42 ?_
            refine v_iload C 0 dX12_wagons_45 rfl ?_
            refine v_iald C 41 0 (hM.2 _ (u_41 0 (by decide))) ⟨by decide, rfl, rfl⟩ (by exact v_in (N := 740) (by decide) (by clear g3 h3; grind) (by clear g3 h3; grind)) dX12_wagons_47 ?_
            refine v_i (y := ((w 41 0) i.toNatClampNeg)) (by simp only [wS_s, wS_t, wS_a, ne_eq, Nat.reduceEqDiff, not_false_eq_true, L7_1]) ?_
            refine v_lshr C dX12_wagons_48 ?_
            refine v_lconst (v := 1) C dX12_wagons_49 (by decide) ?_
            refine v_land C dX12_wagons_50 ?_
            refine v_lconst (v := 1) C dX12_wagons_51 (by decide) ?_
            refine v_lcmp C dX12_wagons_52 ?_
            refine v_if_ne C 58 dX12_wagons_53 (by decide) (fun c_53 => ?_) (fun c_53 => ?_)
            · rw [lg_cmp_eq] at c_53
              refine v_lload_n C 1 dX12_wagons_58 rfl ?_
              refine v_lconst (v := 1) C dX12_wagons_59 (by decide) ?_
              refine v_aload_n C 3 dX12_wagons_60 rfl ?_
              refine v_gR C 12 0 1 41 0 (hM.2 _ (u_12 0 (by decide))) k_12 (by decide) x_1243 (fun _ _ _ => rfl) dX12_wagons_61 ?_
              refine v_iload C 0 dX12_wagons_64 rfl ?_
              refine v_iald C 41 0 (hM.2 _ (u_41 0 (by decide))) ⟨by decide, rfl, rfl⟩ (by exact v_in (N := 740) (by decide) (by clear g3 h3; grind) (by clear g3 h3; grind)) dX12_wagons_66 ?_
              refine v_i (y := ((w 41 0) i.toNatClampNeg)) (by simp only [wS_s, wS_t, wS_a, ne_eq, Nat.reduceEqDiff, not_false_eq_true, L7_1]) ?_
              refine v_lshl C dX12_wagons_67 ?_
              refine v_lor C dX12_wagons_68 ?_
              refine v_lstore_n (lv2 := [(2, .long (acc ||| ((1 : Int64) <<< (((w 41 0) i.toNatClampNeg).toInt64 &&& 63)))), (4, .int i), (1, .int (w 1062 0 0)), (0, .ref (E.ad 12 0))]) C dX12_wagons_69 rfl (by decide) rfl ?_
              refine v_iinc (v := i + 1) (lv2 := [(4, .int (i + 1)), (2, .long (acc ||| ((1 : Int64) <<< (((w 41 0) i.toNatClampNeg).toInt64 &&& 63)))), (1, .int (w 1062 0 0)), (0, .ref (E.ad 12 0))]) C 1 dX12_wagons_70 rfl rfl (by decide) rfl ?_
              refine v_goto C 22 dX12_wagons_73 (by decide) ?_
              exact ih_22 (acc ||| ((1 : Int64) <<< (((w 41 0) i.toNatClampNeg).toInt64 &&& 63))) (i + 1) (by clear C ih_22; exact Nat.lt_of_lt_of_le (m_up (by clear g3 h3; grind) (by clear g3 h3; grind)) (Nat.le_of_lt_succ hm_)) (by clear C ih_22; refine ⟨by clear g3 h3; grind, by clear g3 h3; grind, g4, g5, ?_⟩; rw [← g3, m_dnn g1 (by clear g3 h3; grind), rowR_s (by simp only [inB]; clear g3 h3; grind), cl_succ g1 (by clear g3 h3; grind)])
            · rw [lg_cmp_eq] at c_53
              refine v_lconst (v := 0) C dX12_wagons_56 (by decide) ?_
              exact v_lret C dX12_wagons_57 ⟨(by clear C ih_22; rw [if_neg (by clear g3 h3; grind), ← g3, m_dnn g1 (by clear g3 h3; grind), rowR_0 (by simp only [inB]; clear g3 h3; grind)]), (congr (congrArg Prod.mk rfl) rfl)⟩
    exact hL22 _ 0 0 (Nat.lt_succ_self _) (by clear C hL22; refine ⟨by decide, h1, by clear h3; grind, by clear h3; grind, by rw [show (w 1062 0 0) - 0 = (w 1062 0 0) by grind]; rfl⟩)
  · refine v_lconst (v := 0) C dX12_wagons_15 (by decide) ?_
    exact v_lret C dX12_wagons_16 ⟨(by clear C; rw [if_pos (by clear h3; grind)]), (congr (congrArg Prod.mk rfl) rfl)⟩
