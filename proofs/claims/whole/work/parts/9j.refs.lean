abbrev P_X12_next (w : Wi) (z : Wj) : Int32 → WW → Prop := fun r_ u_ => r_ = (if (if (w 1062 0 0) < 1 ∨ 16 < (w 1062 0 0) then 0 else rowR (w 41 0) ((w 1062 0 0)).toNatClampNeg 0 0) = 0 ∨ (w 1129 0 0) = 0 then (-1) else if (foR (lsF (z 65 0) (z 66 0) (w 67 0) ((w 1129 0 0) - 1)) (fun k => inB (if (w 1062 0 0) < 1 ∨ 16 < (w 1062 0 0) then 0 else rowR (w 41 0) ((w 1062 0 0)).toNatClampNeg 0 0) (nI k) ≠ 0 ∧ bsR (z 66 0) (nI k) ((w 1129 0 0) - lsF (z 65 0) (z 66 0) (w 67 0) ((w 1129 0 0) - 1) k).toNatClampNeg (lsF (z 65 0) (z 66 0) (w 67 0) ((w 1129 0 0) - 1) k).toNatClampNeg ≠ 0) 40).1 = 0 then (-1) else if (foR (lsF (z 65 0) (z 66 0) (w 67 0) ((w 1129 0 0) - 1)) (fun k => inB (if (w 1062 0 0) < 1 ∨ 16 < (w 1062 0 0) then 0 else rowR (w 41 0) ((w 1062 0 0)).toNatClampNeg 0 0) (nI k) ≠ 0 ∧ bsR (z 66 0) (nI k) ((w 1129 0 0) - lsF (z 65 0) (z 66 0) (w 67 0) ((w 1129 0 0) - 1) k).toNatClampNeg (lsF (z 65 0) (z 66 0) (w 67 0) ((w 1129 0 0) - 1) k).toNatClampNeg ≠ 0) 40).2 = 0 then 0 else if (foR (lsF (z 65 0) (z 66 0) (w 67 0) ((w 1129 0 0) - 1)) (fun k => inB (if (w 1062 0 0) < 1 ∨ 16 < (w 1062 0 0) then 0 else rowR (w 41 0) ((w 1062 0 0)).toNatClampNeg 0 0) (nI k) ≠ 0 ∧ bsR (z 66 0) (nI k) ((w 1129 0 0) - lsF (z 65 0) (z 66 0) (w 67 0) ((w 1129 0 0) - 1) k).toNatClampNeg (lsF (z 65 0) (z 66 0) (w 67 0) ((w 1129 0 0) - 1) k).toNatClampNeg ≠ 0) 40).2 = (foR (lsF (z 65 0) (z 66 0) (w 67 0) ((w 1129 0 0) - 1)) (fun k => inB (if (w 1062 0 0) < 1 ∨ 16 < (w 1062 0 0) then 0 else rowR (w 41 0) ((w 1062 0 0)).toNatClampNeg 0 0) (nI k) ≠ 0 ∧ bsR (z 66 0) (nI k) ((w 1129 0 0) - lsF (z 65 0) (z 66 0) (w 67 0) ((w 1129 0 0) - 1) k).toNatClampNeg (lsF (z 65 0) (z 66 0) (w 67 0) ((w 1129 0 0) - 1) k).toNatClampNeg ≠ 0) 40).1 then 1 else 2) ∧ u_ = ((wS (wS w 1060 0 (fun _ => 0)) 1062 0 (fun _ => 0)), z)
set_option maxHeartbeats 4000000 in
set_option maxRecDepth 100000 in
theorem c_X12_next (E : En) (hM : q_okM E) (w : Wi) (z : Wj) (h1 : 0 ≤ (w 1062 0 0)) (h2 : (w 1062 0 0) ≤ 740) (h3 : ∀ k, k < ((w 1062 0 0)).toNatClampNeg → 0 ≤ (w 41 0) k) (h4 : 0 ≤ (w 1129 0 0)) (h5 : (w 1129 0 0) ≤ 40) (h6 : ∀ k, (w 67 0) k = 0 ∨ (w 67 0) k = 1) : CtI M_X12_next E [.ref (E.ad 12 0)] w z (P_X12_next w z) := by
  have hE := hM.1
  refine ctI_of (lv := [(0, .ref (E.ad 12 0))]) hE m_X12_next (Nat.le_of_ble_eq_true rfl) rfl ?_
  intro K A C0
  have C : Cx K E A cX12_next 9 RX12 (some .int) { frames := 2, cells := 0, slots := 0, locals := 50 } := C0
  clear C0
  obtain ⟨RW, hRW⟩ : ∃ RW : Int64, RW = (if (w 1062 0 0) < 1 ∨ 16 < (w 1062 0 0) then 0 else rowR (w 41 0) ((w 1062 0 0)).toNatClampNeg 0 0) := ⟨_, rfl⟩
  refine v_aload_n C 0 dX12_next_0 rfl ?_
  refine v_iconst (v := 0) C dX12_next_1 (by decide) ?_
  refine v_pI C 12 0 0 1060 (hM.2 _ (u_12 0 (by decide))) k_12 ty_12 (by decide) rfl ⟨rfl, rfl⟩ x_1242 rfl rfl dX12_next_2 ?_
  refine v_aload_n C 0 dX12_next_5 rfl ?_
  refine v_vJ C 12 0 [] 0 (c_X12_wagons E hM _ _    (by clear C; (try simp only [wS_s, wS_t, wS_a, ne_eq, Nat.reduceEqDiff, not_false_eq_true, L7_1]); exact h1) (by clear C; (try simp only [wS_s, wS_t, wS_a, ne_eq, Nat.reduceEqDiff, not_false_eq_true, L7_1]); exact h2) (by clear C; (try simp only [wS_s, wS_t, wS_a, ne_eq, Nat.reduceEqDiff, not_false_eq_true, L7_1]); exact h3)) m_X12_wagons x_1715 x_1717 x_68 p_X12_wagons rfl ⟨Nat.le_of_ble_eq_true rfl, Nat.le_of_ble_eq_true rfl⟩ (hM.2 _ (u_12 0 (by decide))) k_12 rfl (Nat.le_of_ble_eq_true rfl) dX12_next_6 (fun r1 u1 v1 hp1 => ?_)
  obtain ⟨hr1, hu1⟩ := hp1
  subst hr1
  cases hu1
  refine v_j (y := (if (w 1062 0 0) < 1 ∨ 16 < (w 1062 0 0) then 0 else rowR (w 41 0) ((w 1062 0 0)).toNatClampNeg 0 0)) (by simp only [wS_s, wS_t, wS_a, ne_eq, Nat.reduceEqDiff, not_false_eq_true, L7_1]) ?_
  refine v_w (w2 := (wS (wS w 1060 0 (fun _ => 0)) 1062 0 (fun _ => 0))) (by simp only [wS_s, wS_t, wS_a, ne_eq, Nat.reduceEqDiff, not_false_eq_true, wS_wS, wS_p, wS_pp, Nat.reduceLT, id_eq, L7_1]) ?_
  have hL9 : ∀ (rw_ : Int64), (rw_ = RW) → V K E A 9 (QI K E A (P_X12_next w z)) 9 [(0, .ref (E.ad 12 0))] [.long rw_] (wS (wS w 1060 0 (fun _ => 0)) 1062 0 (fun _ => 0)) z := by
    intro rw_ hinv
    have er := hinv
    rw [hRW] at er
    refine v_lstore_n (lv2 := [(1, .long rw_), (0, .ref (E.ad 12 0))]) C dX12_next_9 rfl (by decide) rfl ?_
    refine v_lload_n C 0 dX12_next_10 rfl ?_
    refine v_lconst (v := 0) C dX12_next_11 (by decide) ?_
    refine v_lcmp C dX12_next_12 ?_
    refine v_if_eq C 23 dX12_next_13 (by decide) (fun c_13 => ?_) (fun c_13 => ?_)
    · rw [lg_cmp_eq] at c_13
      refine v_iconst (v := (-1)) C dX12_next_23 (by decide) ?_
      exact v_iret C dX12_next_24 ⟨(by clear C; first | rfl | (rw [← er, if_pos (by clear h3 h6 hRW er; grind)])), (congr (congrArg Prod.mk rfl) rfl)⟩
    · rw [lg_cmp_eq] at c_13
      refine v_aload_n C 1 dX12_next_16 rfl ?_
      refine v_gI C 12 0 69 1129 (w 1129 0 0) (hM.2 _ (u_12 0 (by decide))) k_12 (by decide) rfl rfl x_1311 (by simp only [wS_s, wS_t, wS_a, ne_eq, Nat.reduceEqDiff, not_false_eq_true, L7_1]) dX12_next_17 ?_
      refine v_if_ne C 25 dX12_next_20 (by decide) (fun c_20 => ?_) (fun c_20 => ?_)
      · refine v_iconst (v := 0) C dX12_next_25 (by decide) ?_
        refine v_istore_n (lv2 := [(3, .int 0), (1, .long rw_), (0, .ref (E.ad 12 0))]) C dX12_next_26 rfl (by decide) rfl ?_
        refine v_iconst (v := 0) C dX12_next_27 (by decide) ?_
        refine v_istore (lv2 := [(4, .int 0), (3, .int 0), (1, .long rw_), (0, .ref (E.ad 12 0))]) C dX12_next_28 (by decide) rfl ?_
        refine v_iconst (v := 0) C dX12_next_30 (by decide) ?_
        refine v_istore (lv2 := [(5, .int 0), (4, .int 0), (3, .int 0), (1, .long rw_), (0, .ref (E.ad 12 0))]) C dX12_next_31 (by decide) rfl ?_
        have hL33 : ∀ (n_ : Nat) (ho : Int32) (co : Int32) (i : Int32), (40 - i).toNatClampNeg < n_ → ((0 ≤ i ∧ i ≤ 40 ∧ ¬ (w 1129 0 0) = 0 ∧ ¬ rw_ = 0) ∧ (0 ≤ ho ∧ 0 ≤ co ∧ ho ≤ i ∧ co ≤ i) ∧ foR (lsF (z 65 0) (z 66 0) (w 67 0) ((w 1129 0 0) - 1)) (fun k => inB rw_ (nI k) ≠ 0 ∧ bsR (z 66 0) (nI k) ((w 1129 0 0) - lsF (z 65 0) (z 66 0) (w 67 0) ((w 1129 0 0) - 1) k).toNatClampNeg (lsF (z 65 0) (z 66 0) (w 67 0) ((w 1129 0 0) - 1) k).toNatClampNeg ≠ 0) i.toNatClampNeg = (ho + co, ho)) → V K E A 9 (QI K E A (P_X12_next w z)) 33 [(5, .int i), (4, .int co), (3, .int ho), (1, .long rw_), (0, .ref (E.ad 12 0))] [] (wS (wS w 1060 0 (fun _ => 0)) 1062 0 (fun _ => 0)) z := by
          intro n_
          induction n_ with
          | zero => intro ho co i hm_; exact absurd hm_ (Nat.not_lt_zero _)
          | succ n_ ih_33 =>
            intro ho co i hm_ hinv
            obtain ⟨⟨g1, g2, gz, gr⟩, ⟨n1, n2, n3, n4⟩, g3⟩ := hinv
            have hm1 := hm_
            refine v_iload C 0 dX12_next_33 rfl ?_
            refine v_bipush (v := 40) C dX12_next_35 (by decide) ?_
            refine v_ic_ge C 140 dX12_next_37 (by decide) (fun c_37 => ?_) (fun c_37 => ?_)
            · refine v_iload_n C 2 dX12_next_140 rfl ?_
              refine v_iload C 1 dX12_next_141 rfl ?_
              refine v_iadd C dX12_next_143 ?_
              refine v_if_ne C 151 dX12_next_144 (by decide) (fun c_144 => ?_) (fun c_144 => ?_)
              · refine v_iload C 1 dX12_next_151 rfl ?_
                refine v_if_ne C 160 dX12_next_153 (by decide) (fun c_153 => ?_) (fun c_153 => ?_)
                · refine v_iload_n C 2 dX12_next_160 rfl ?_
                  refine v_if_ne C 168 dX12_next_161 (by decide) (fun c_161 => ?_) (fun c_161 => ?_)
                  · refine v_iconst (v := 2) C dX12_next_168 (by decide) ?_
                    have hi : i = 40 := (by clear h3 h6 hRW er g3; grind)
                    subst hi
                    have g6 : (foR (lsF (z 65 0) (z 66 0) (w 67 0) ((w 1129 0 0) - 1)) (fun k => inB (if (w 1062 0 0) < 1 ∨ 16 < (w 1062 0 0) then 0 else rowR (w 41 0) ((w 1062 0 0)).toNatClampNeg 0 0) (nI k) ≠ 0 ∧ bsR (z 66 0) (nI k) ((w 1129 0 0) - lsF (z 65 0) (z 66 0) (w 67 0) ((w 1129 0 0) - 1) k).toNatClampNeg (lsF (z 65 0) (z 66 0) (w 67 0) ((w 1129 0 0) - 1) k).toNatClampNeg ≠ 0) 40) = (ho + co, ho) := by rw [← er]; exact g3
                    exact v_iret C dX12_next_169 ⟨(by clear C ih_33; first | rfl | (rw [g6, ← er, if_neg (by clear h3 h6 hRW er g3 g6; grind)]; dsimp only; clear h3 h6 hRW er g3 g6; grind)), (congr (congrArg Prod.mk rfl) rfl)⟩
                  · refine v_iconst (v := 0) C dX12_next_164 (by decide) ?_
                    refine v_goto C 169 dX12_next_165 (by decide) ?_
                    have hi : i = 40 := (by clear h3 h6 hRW er g3; grind)
                    subst hi
                    have g6 : (foR (lsF (z 65 0) (z 66 0) (w 67 0) ((w 1129 0 0) - 1)) (fun k => inB (if (w 1062 0 0) < 1 ∨ 16 < (w 1062 0 0) then 0 else rowR (w 41 0) ((w 1062 0 0)).toNatClampNeg 0 0) (nI k) ≠ 0 ∧ bsR (z 66 0) (nI k) ((w 1129 0 0) - lsF (z 65 0) (z 66 0) (w 67 0) ((w 1129 0 0) - 1) k).toNatClampNeg (lsF (z 65 0) (z 66 0) (w 67 0) ((w 1129 0 0) - 1) k).toNatClampNeg ≠ 0) 40) = (ho + co, ho) := by rw [← er]; exact g3
                    exact v_iret C dX12_next_169 ⟨(by clear C ih_33; first | rfl | (rw [g6, ← er, if_neg (by clear h3 h6 hRW er g3 g6; grind)]; dsimp only; clear h3 h6 hRW er g3 g6; grind)), (congr (congrArg Prod.mk rfl) rfl)⟩
                · refine v_iconst (v := 1) C dX12_next_156 (by decide) ?_
                  refine v_goto C 169 dX12_next_157 (by decide) ?_
                  have hi : i = 40 := (by clear h3 h6 hRW er g3; grind)
                  subst hi
                  have g6 : (foR (lsF (z 65 0) (z 66 0) (w 67 0) ((w 1129 0 0) - 1)) (fun k => inB (if (w 1062 0 0) < 1 ∨ 16 < (w 1062 0 0) then 0 else rowR (w 41 0) ((w 1062 0 0)).toNatClampNeg 0 0) (nI k) ≠ 0 ∧ bsR (z 66 0) (nI k) ((w 1129 0 0) - lsF (z 65 0) (z 66 0) (w 67 0) ((w 1129 0 0) - 1) k).toNatClampNeg (lsF (z 65 0) (z 66 0) (w 67 0) ((w 1129 0 0) - 1) k).toNatClampNeg ≠ 0) 40) = (ho + co, ho) := by rw [← er]; exact g3
                  exact v_iret C dX12_next_169 ⟨(by clear C ih_33; first | rfl | (rw [g6, ← er, if_neg (by clear h3 h6 hRW er g3 g6; grind)]; dsimp only; clear h3 h6 hRW er g3 g6; grind)), (congr (congrArg Prod.mk rfl) rfl)⟩
              · refine v_iconst (v := (-1)) C dX12_next_147 (by decide) ?_
                refine v_goto C 169 dX12_next_148 (by decide) ?_
                have hi : i = 40 := (by clear h3 h6 hRW er g3; grind)
                subst hi
                have g6 : (foR (lsF (z 65 0) (z 66 0) (w 67 0) ((w 1129 0 0) - 1)) (fun k => inB (if (w 1062 0 0) < 1 ∨ 16 < (w 1062 0 0) then 0 else rowR (w 41 0) ((w 1062 0 0)).toNatClampNeg 0 0) (nI k) ≠ 0 ∧ bsR (z 66 0) (nI k) ((w 1129 0 0) - lsF (z 65 0) (z 66 0) (w 67 0) ((w 1129 0 0) - 1) k).toNatClampNeg (lsF (z 65 0) (z 66 0) (w 67 0) ((w 1129 0 0) - 1) k).toNatClampNeg ≠ 0) 40) = (ho + co, ho) := by rw [← er]; exact g3
                exact v_iret C dX12_next_169 ⟨(by clear C ih_33; first | rfl | (rw [g6, ← er, if_neg (by clear h3 h6 hRW er g3 g6; grind)]; dsimp only; clear h3 h6 hRW er g3 g6; grind)), (congr (congrArg Prod.mk rfl) rfl)⟩
            · refine v_aload_n C 4 dX12_next_40 rfl ?_
              refine v_iload C 0 dX12_next_41 rfl ?_
              refine v_aload_n C 4 dX12_next_43 rfl ?_
              refine v_gI C 12 0 69 1129 (w 1129 0 0) (hM.2 _ (u_12 0 (by decide))) k_12 (by decide) rfl rfl x_1311 (by simp only [wS_s, wS_t, wS_a, ne_eq, Nat.reduceEqDiff, not_false_eq_true, L7_1]) dX12_next_44 ?_
              refine v_iconst (v := 1) C dX12_next_47 (by decide) ?_
              refine v_isub C dX12_next_48 ?_
              refine v_vI C 12 0 [.int i, .int ((w 1129 0 0) - 1)] 2 (c_X12_latest E hM _ _  i ((w 1129 0 0) - 1)  (by clear C ih_33; (try simp only [wS_s, wS_t, wS_a, ne_eq, Nat.reduceEqDiff, not_false_eq_true, L7_1]); clear h3 h6 hRW er gz g3; grind) (by clear C ih_33; (try simp only [wS_s, wS_t, wS_a, ne_eq, Nat.reduceEqDiff, not_false_eq_true, L7_1]); clear h3 h6 hRW er gz g3; grind) (by clear C ih_33; (try simp only [wS_s, wS_t, wS_a, ne_eq, Nat.reduceEqDiff, not_false_eq_true, L7_1]); exact h6)) m_X12_latest x_1727 x_1729 x_69 p_X12_latest rfl ⟨Nat.le_of_ble_eq_true rfl, Nat.le_of_ble_eq_true rfl⟩ (hM.2 _ (u_12 0 (by decide))) k_12 rfl (Nat.le_of_ble_eq_true rfl) dX12_next_49 (fun r2 u2 v2 hp2 => ?_)
              obtain ⟨hr2, hu2⟩ := hp2
              subst hr2
              cases hu2
              refine v_i (y := (lsR (exF (z 65 0) (z 66 0) (w 67 0) i ((w 1129 0 0) - 1)) (((w 1129 0 0) - 1) + 1).toNatClampNeg)) (by simp only [wS_s, wS_t, wS_a, ne_eq, Nat.reduceEqDiff, not_false_eq_true, L7_1]) ?_
              refine v_istore (lv2 := [(6, .int (lsR (exF (z 65 0) (z 66 0) (w 67 0) i ((w 1129 0 0) - 1)) (((w 1129 0 0) - 1) + 1).toNatClampNeg)), (5, .int i), (4, .int co), (3, .int ho), (1, .long rw_), (0, .ref (E.ad 12 0))]) C dX12_next_52 (by decide) rfl ?_
              have hL54 : ∀ (s : Int32), (s = lsF (z 65 0) (z 66 0) (w 67 0) ((w 1129 0 0) - 1) i.toNatClampNeg ∧ (s = (-1) ∨ 0 ≤ s ∧ s < (w 1129 0 0))) → V K E A 9 (QI K E A (P_X12_next w z)) 54 [(6, .int s), (5, .int i), (4, .int co), (3, .int ho), (1, .long rw_), (0, .ref (E.ad 12 0))] [] (wS (wS w 1060 0 (fun _ => 0)) 1062 0 (fun _ => 0)) z := by
                intro s hinv
                obtain ⟨es, eb⟩ := hinv
                refine v_iload C 0 dX12_next_54 rfl ?_
                refine v_iconst (v := (-1)) C dX12_next_56 (by decide) ?_
                refine v_ic_ne C 63 dX12_next_57 (by decide) (fun c_57 => ?_) (fun c_57 => ?_)
                · have hL79 : ∀ (b0 : Int32), (b0 = inB rw_ i) → V K E A 9 (QI K E A (P_X12_next w z)) 79 [(6, .int s), (5, .int i), (4, .int co), (3, .int ho), (1, .long rw_), (0, .ref (E.ad 12 0))] [.int b0] (wS (wS w 1060 0 (fun _ => 0)) 1062 0 (fun _ => 0)) z := by
                    intro b0 hinv
                    have e0 := hinv
                    refine v_istore (lv2 := [(7, .int b0), (6, .int s), (5, .int i), (4, .int co), (3, .int ho), (1, .long rw_), (0, .ref (E.ad 12 0))]) C dX12_next_79 (by decide) rfl ?_
                    refine v_iload C 1 dX12_next_81 rfl ?_
                    refine v_istore (lv2 := [(8, .int s), (7, .int b0), (6, .int s), (5, .int i), (4, .int co), (3, .int ho), (1, .long rw_), (0, .ref (E.ad 12 0))]) C dX12_next_83 (by decide) rfl ?_
                    have hL85 : ∀ (n_ : Nat) (b1 : Int32) (j : Int32), (100 - j).toNatClampNeg < n_ → (s ≤ j ∧ j ≤ (w 1129 0 0) ∧ ((b1 ≠ 0 ∧ bsR (z 66 0) i ((w 1129 0 0) - j).toNatClampNeg j.toNatClampNeg ≠ 0) ↔ (inB rw_ i ≠ 0 ∧ bsR (z 66 0) i ((w 1129 0 0) - s).toNatClampNeg s.toNatClampNeg ≠ 0))) → V K E A 9 (QI K E A (P_X12_next w z)) 85 [(8, .int j), (7, .int b1), (6, .int s), (5, .int i), (4, .int co), (3, .int ho), (1, .long rw_), (0, .ref (E.ad 12 0))] [] (wS (wS w 1060 0 (fun _ => 0)) 1062 0 (fun _ => 0)) z := by
                      intro n_
                      induction n_ with
                      | zero => intro b1 j hm_; exact absurd hm_ (Nat.not_lt_zero _)
                      | succ n_ ih_85 =>
                        intro b1 j hm_ hinv
                        obtain ⟨k1, k2, k3⟩ := hinv
                        refine v_iload C 0 dX12_next_85 rfl ?_
                        refine v_aload_n C 7 dX12_next_87 rfl ?_
                        refine v_gI C 12 0 69 1129 (w 1129 0 0) (hM.2 _ (u_12 0 (by decide))) k_12 (by decide) rfl rfl x_1311 (by simp only [wS_s, wS_t, wS_a, ne_eq, Nat.reduceEqDiff, not_false_eq_true, L7_1]) dX12_next_88 ?_
                        refine v_ic_ge C 120 dX12_next_91 (by decide) (fun c_91 => ?_) (fun c_91 => ?_)
                        · refine v_iload C 1 dX12_next_120 rfl ?_
                          refine v_if_eq C 131 dX12_next_122 (by decide) (fun c_122 => ?_) (fun c_122 => ?_)
                          · refine v_iinc (v := co + 1) (lv2 := [(4, .int (co + 1)), (8, .int j), (7, .int b1), (6, .int s), (5, .int i), (3, .int ho), (1, .long rw_), (0, .ref (E.ad 12 0))]) C 4 dX12_next_131 rfl rfl (by decide) rfl ?_
                            refine v_iinc (v := i + 1) (lv2 := [(5, .int (i + 1)), (4, .int (co + 1)), (8, .int j), (7, .int b1), (6, .int s), (3, .int ho), (1, .long rw_), (0, .ref (E.ad 12 0))]) C 4 dX12_next_134 rfl rfl (by decide) rfl ?_
                            refine v_goto C 33 dX12_next_137 (by decide) ?_
                            refine v_l [0, 1, 5, 6, 7] rfl ?_
                            exact ih_33 ho (co + 1) (i + 1) (by clear C ih_33 ih_85; exact Nat.lt_of_lt_of_le (m_up (by clear h3 h6 hRW er g3; grind) (by clear h3 h6 hRW er g3; grind)) (Nat.le_of_lt_succ hm1)) (by clear C ih_33 ih_85; refine ⟨⟨by clear h3 h6 hRW er g3; grind, by clear h3 h6 hRW er g3; grind, gz, gr⟩, ⟨by clear h3 h6 hRW er g3; grind, by clear h3 h6 hRW er g3; grind, by clear h3 h6 hRW er g3; grind, by clear h3 h6 hRW er g3; grind⟩, ?_⟩; rw [cl_succ g1 (by clear h3 h6 hRW er g3; grind)]; simp only [foR, g3]; rw [← es, nI_cl g1]; first | (rw [if_neg (not_not_intro (show s = (-1) by assumption))]; done) | (have k4 := k3; rw [show (w 1129 0 0) - j = 0 by clear h3 h6 hRW er g3 k3; grind] at k4; simp only [bsR, show (0 : Int32).toNatClampNeg = 0 from rfl] at k4; rw [if_pos (show s ≠ (-1) by assumption)]; first | (rw [if_pos (k4.mp ⟨by assumption, by decide⟩)]; clear h3 h6 hRW er g3 k3 k4; grind) | (rw [if_neg (fun q => absurd (show b1 = 0 by assumption) (k4.mpr q).1)]; clear h3 h6 hRW er g3 k3 k4; grind)))
                          · refine v_iinc (v := ho + 1) (lv2 := [(3, .int (ho + 1)), (8, .int j), (7, .int b1), (6, .int s), (5, .int i), (4, .int co), (1, .long rw_), (0, .ref (E.ad 12 0))]) C 5 dX12_next_125 rfl rfl (by decide) rfl ?_
                            refine v_goto C 134 dX12_next_128 (by decide) ?_
                            refine v_iinc (v := i + 1) (lv2 := [(5, .int (i + 1)), (3, .int (ho + 1)), (8, .int j), (7, .int b1), (6, .int s), (4, .int co), (1, .long rw_), (0, .ref (E.ad 12 0))]) C 4 dX12_next_134 rfl rfl (by decide) rfl ?_
                            refine v_goto C 33 dX12_next_137 (by decide) ?_
                            refine v_l [0, 5, 1, 6, 7] rfl ?_
                            exact ih_33 (ho + 1) co (i + 1) (by clear C ih_33 ih_85; exact Nat.lt_of_lt_of_le (m_up (by clear h3 h6 hRW er g3; grind) (by clear h3 h6 hRW er g3; grind)) (Nat.le_of_lt_succ hm1)) (by clear C ih_33 ih_85; refine ⟨⟨by clear h3 h6 hRW er g3; grind, by clear h3 h6 hRW er g3; grind, gz, gr⟩, ⟨by clear h3 h6 hRW er g3; grind, by clear h3 h6 hRW er g3; grind, by clear h3 h6 hRW er g3; grind, by clear h3 h6 hRW er g3; grind⟩, ?_⟩; rw [cl_succ g1 (by clear h3 h6 hRW er g3; grind)]; simp only [foR, g3]; rw [← es, nI_cl g1]; first | (rw [if_neg (not_not_intro (show s = (-1) by assumption))]; done) | (have k4 := k3; rw [show (w 1129 0 0) - j = 0 by clear h3 h6 hRW er g3 k3; grind] at k4; simp only [bsR, show (0 : Int32).toNatClampNeg = 0 from rfl] at k4; rw [if_pos (show s ≠ (-1) by assumption)]; first | (rw [if_pos (k4.mp ⟨by assumption, by decide⟩)]; clear h3 h6 hRW er g3 k3 k4; grind) | (rw [if_neg (fun q => absurd (show b1 = 0 by assumption) (k4.mpr q).1)]; clear h3 h6 hRW er g3 k3 k4; grind)))
                        · refine v_aload_n C 7 dX12_next_94 rfl ?_
                          refine v_gR C 12 0 67 66 0 (hM.2 _ (u_12 0 (by decide))) k_12 (by decide) x_1309 (fun _ _ _ => rfl) dX12_next_95 ?_
                          refine v_iload C 0 dX12_next_98 rfl ?_
                          refine v_lald C 66 0 (hM.2 _ (u_66 0 (by decide))) ⟨by decide, rfl, rfl⟩ (by exact v_in (N := 40) (by decide) (by clear h3 h6 hRW er g3 k3; grind) (by clear h3 h6 hRW er g3 k3; grind)) dX12_next_100 ?_
                          refine v_iload C 3 dX12_next_101 rfl ?_
                          refine v_lshr C dX12_next_103 ?_
                          refine v_lconst (v := 1) C dX12_next_104 (by decide) ?_
                          refine v_land C dX12_next_105 ?_
                          refine v_lconst (v := 1) C dX12_next_106 (by decide) ?_
                          refine v_lcmp C dX12_next_107 ?_
                          refine v_if_ne C 114 dX12_next_108 (by decide) (fun c_108 => ?_) (fun c_108 => ?_)
                          · rw [lg_cmp_eq] at c_108
                            refine v_iinc (v := j + 1) (lv2 := [(8, .int (j + 1)), (7, .int b1), (6, .int s), (5, .int i), (4, .int co), (3, .int ho), (1, .long rw_), (0, .ref (E.ad 12 0))]) C 0 dX12_next_114 rfl rfl (by decide) rfl ?_
                            refine v_goto C 85 dX12_next_117 (by decide) ?_
                            exact ih_85 b1 (j + 1) (by clear C ih_33 ih_85; exact Nat.lt_of_lt_of_le (m_up (by clear h3 h6 hRW er g3 k3; grind) (by clear h3 h6 hRW er g3 k3; grind)) (Nat.le_of_lt_succ hm_)) (by clear C ih_33 ih_85; refine ⟨by clear h3 h6 hRW er g3 k3; grind, by clear h3 h6 hRW er g3 k3; grind, ?_⟩; rw [← k3, m_dnn (i := j) (N := (w 1129 0 0)) (by clear h3 h6 hRW er g3 k3; grind) (by clear h3 h6 hRW er g3 k3; grind), cl_succ (by clear h3 h6 hRW er g3 k3; grind) (by clear h3 h6 hRW er g3 k3; grind)]; simp only [bsR, inB]; clear h3 h6 hRW er g3 k3; grind)
                          · rw [lg_cmp_eq] at c_108
                            refine v_iconst (v := 0) C dX12_next_111 (by decide) ?_
                            refine v_istore (lv2 := [(7, .int 0), (8, .int j), (6, .int s), (5, .int i), (4, .int co), (3, .int ho), (1, .long rw_), (0, .ref (E.ad 12 0))]) C dX12_next_112 (by decide) rfl ?_
                            refine v_iinc (v := j + 1) (lv2 := [(8, .int (j + 1)), (7, .int 0), (6, .int s), (5, .int i), (4, .int co), (3, .int ho), (1, .long rw_), (0, .ref (E.ad 12 0))]) C 1 dX12_next_114 rfl rfl (by decide) rfl ?_
                            refine v_goto C 85 dX12_next_117 (by decide) ?_
                            exact ih_85 0 (j + 1) (by clear C ih_33 ih_85; exact Nat.lt_of_lt_of_le (m_up (by clear h3 h6 hRW er g3 k3; grind) (by clear h3 h6 hRW er g3 k3; grind)) (Nat.le_of_lt_succ hm_)) (by clear C ih_33 ih_85; refine ⟨by clear h3 h6 hRW er g3 k3; grind, by clear h3 h6 hRW er g3 k3; grind, ?_⟩; rw [← k3, m_dnn (i := j) (N := (w 1129 0 0)) (by clear h3 h6 hRW er g3 k3; grind) (by clear h3 h6 hRW er g3 k3; grind), cl_succ (by clear h3 h6 hRW er g3 k3; grind) (by clear h3 h6 hRW er g3 k3; grind)]; simp only [bsR, inB]; clear h3 h6 hRW er g3 k3; grind)
                    exact hL85 _ b0 s (Nat.lt_succ_self _) (by clear C ih_33 hL85; refine ⟨by clear h3 h6 hRW er g3; grind, by clear h3 h6 hRW er g3; grind, ?_⟩; rw [e0])
                  refine v_lload_n C 4 dX12_next_63 rfl ?_
                  refine v_iload C 1 dX12_next_64 rfl ?_
                  refine v_lshr C dX12_next_66 ?_
                  refine v_lconst (v := 1) C dX12_next_67 (by decide) ?_
                  refine v_land C dX12_next_68 ?_
                  refine v_lconst (v := 1) C dX12_next_69 (by decide) ?_
                  refine v_lcmp C dX12_next_70 ?_
                  refine v_if_ne C 78 dX12_next_71 (by decide) (fun c_71 => ?_) (fun c_71 => ?_)
                  · rw [lg_cmp_eq] at c_71
                    refine v_iconst (v := 0) C dX12_next_78 (by decide) ?_
                    exact hL79 0 (by clear C ih_33 hL79; simp only [inB]; first | rw [if_pos (by assumption)] | rw [if_neg (by assumption)])
                  · rw [lg_cmp_eq] at c_71
                    refine v_iconst (v := 1) C dX12_next_74 (by decide) ?_
                    refine v_goto C 79 dX12_next_75 (by decide) ?_
                    exact hL79 1 (by clear C ih_33 hL79; simp only [inB]; first | rw [if_pos (by assumption)] | rw [if_neg (by assumption)])
                · refine v_goto C 134 dX12_next_60 (by decide) ?_
                  refine v_iinc (v := i + 1) (lv2 := [(5, .int (i + 1)), (6, .int s), (4, .int co), (3, .int ho), (1, .long rw_), (0, .ref (E.ad 12 0))]) C 1 dX12_next_134 rfl rfl (by decide) rfl ?_
                  refine v_goto C 33 dX12_next_137 (by decide) ?_
                  refine v_l [0, 2, 3, 4, 5] rfl ?_
                  exact ih_33 ho co (i + 1) (by clear C ih_33; exact Nat.lt_of_lt_of_le (m_up (by clear h3 h6 hRW er g3; grind) (by clear h3 h6 hRW er g3; grind)) (Nat.le_of_lt_succ hm1)) (by clear C ih_33; refine ⟨⟨by clear h3 h6 hRW er g3; grind, by clear h3 h6 hRW er g3; grind, gz, gr⟩, ⟨by clear h3 h6 hRW er g3; grind, by clear h3 h6 hRW er g3; grind, by clear h3 h6 hRW er g3; grind, by clear h3 h6 hRW er g3; grind⟩, ?_⟩; rw [cl_succ g1 (by clear h3 h6 hRW er g3; grind)]; simp only [foR, g3]; rw [← es, nI_cl g1]; first | (rw [if_neg (not_not_intro (show s = (-1) by assumption))]; done) | (have k4 := k3; rw [show (w 1129 0 0) - j = 0 by clear h3 h6 hRW er g3 k3; grind] at k4; simp only [bsR, show (0 : Int32).toNatClampNeg = 0 from rfl] at k4; rw [if_pos (show s ≠ (-1) by assumption)]; first | (rw [if_pos (k4.mp ⟨by assumption, by decide⟩)]; clear h3 h6 hRW er g3 k3 k4; grind) | (rw [if_neg (fun q => absurd (show b1 = 0 by assumption) (k4.mpr q).1)]; clear h3 h6 hRW er g3 k3 k4; grind)))
              exact hL54 (lsR (exF (z 65 0) (z 66 0) (w 67 0) i ((w 1129 0 0) - 1)) (((w 1129 0 0) - 1) + 1).toNatClampNeg) (by clear C ih_33 hL54; have q := lsR_c (exF (z 65 0) (z 66 0) (w 67 0) i ((w 1129 0 0) - 1)) (n := (w 1129 0 0) - 1 + 1) (by clear h3 h6 hRW er g3; grind); refine ⟨by simp only [lsF, nI_cl g1], ?_⟩; rw [show (w 1129 0 0) - 1 + 1 = (w 1129 0 0) by grind] at q ⊢; exact q)
        exact hL33 _ 0 0 0 (Nat.lt_succ_self _) (by clear C hL33; exact ⟨⟨by decide, by decide, by assumption, by assumption⟩, ⟨by decide, by decide, by decide, by decide⟩, rfl⟩)
      · refine v_iconst (v := (-1)) C dX12_next_23 (by decide) ?_
        exact v_iret C dX12_next_24 ⟨(by clear C; first | rfl | (rw [← er, if_pos (by clear h3 h6 hRW er; grind)])), (congr (congrArg Prod.mk rfl) rfl)⟩
  exact hL9 (if (w 1062 0 0) < 1 ∨ 16 < (w 1062 0 0) then 0 else rowR (w 41 0) ((w 1062 0 0)).toNatClampNeg 0 0) (by clear C hL9; rw [hRW])
