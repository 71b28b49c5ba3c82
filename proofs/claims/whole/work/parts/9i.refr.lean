abbrev P_X12_makes (w : Wi) (z : Wj) (wg : Int32) (st : Int32) (d : Int32) : Int32 → WW → Prop := fun r_ u_ => r_ = ((exR (z 65 0) (z 66 0) (w 67 0) wg st (d + 1).toNatClampNeg 0 0)) ∧ u_ = (w, z)
set_option maxHeartbeats 4000000 in
set_option maxRecDepth 100000 in
theorem c_X12_makes (E : En) (hM : q_okM E) (w : Wi) (z : Wj) (wg : Int32) (st : Int32) (d : Int32) (h1 : 0 ≤ st) (h2 : st ≤ d) (h3 : d < 40) (h4 : ∀ k, (w 67 0) k = 0 ∨ (w 67 0) k = 1) : CtI M_X12_makes E [.ref (E.ad 12 0), .int wg, .int st, .int d] w z (P_X12_makes w z wg st d) := by
  have hE := hM.1
  refine ctI_of (lv := [(0, .ref (E.ad 12 0)), (1, .int wg), (2, .int st), (3, .int d)]) hE m_X12_makes (Nat.le_of_ble_eq_true rfl) rfl ?_
  intro K A C0
  have C : Cx K E A cX12_makes 8 RX12 (some .boolean) { frames := 0, cells := 0, slots := 0, locals := 0 } := C0
  clear C0
  refine v_iconst (v := 0) C dX12_makes_0 (by decide) ?_
  refine v_istore (lv2 := [(4, .int 0), (0, .ref (E.ad 12 0)), (1, .int wg), (2, .int st), (3, .int d)]) C dX12_makes_1 (by decide) rfl ?_
  refine v_iconst (v := 0) C dX12_makes_3 (by decide) ?_
  refine v_istore (lv2 := [(5, .int 0), (4, .int 0), (0, .ref (E.ad 12 0)), (1, .int wg), (2, .int st), (3, .int d)]) C dX12_makes_4 (by decide) rfl ?_
  refine v_iconst (v := 0) C dX12_makes_6 (by decide) ?_
  refine v_istore (lv2 := [(6, .int 0), (5, .int 0), (4, .int 0), (0, .ref (E.ad 12 0)), (1, .int wg), (2, .int st), (3, .int d)]) C dX12_makes_7 (by decide) rfl ?_
  have hL9 : ∀ (n_ : Nat) (bad : Int32) (was : Int32) (i : Int32), (100 - i).toNatClampNeg < n_ → (0 ≤ i ∧ i ≤ d + 1 ∧ (st < i → ¬ (bad = 0 ∧ was = 0)) ∧ (i ≤ st → bad = 0) ∧ exR (z 65 0) (z 66 0) (w 67 0) wg st (d + 1 - i).toNatClampNeg i.toNatClampNeg bad = (exR (z 65 0) (z 66 0) (w 67 0) wg st (d + 1).toNatClampNeg 0 0)) → V K E A 8 (QI K E A (P_X12_makes w z wg st d)) 9 [(6, .int i), (5, .int was), (4, .int bad), (0, .ref (E.ad 12 0)), (1, .int wg), (2, .int st), (3, .int d)] [] w z := by
    intro n_
    induction n_ with
    | zero => intro bad was i hm_; exact absurd hm_ (Nat.not_lt_zero _)
    | succ n_ ih_9 =>
      intro bad was i hm_ hinv
      obtain ⟨g1, g2, g4, g5, g3⟩ := hinv
      refine v_iload C 0 dX12_makes_9 rfl ?_
      refine v_iload_n C 6 dX12_makes_11 rfl ?_
      refine v_ic_gt C 99 dX12_makes_12 (by decide) (fun c_12 => ?_) (fun c_12 => ?_)
      · refine v_iload C 2 dX12_makes_99 rfl ?_
        refine v_if_ne C 109 dX12_makes_101 (by decide) (fun c_101 => ?_) (fun c_101 => ?_)
        · refine v_iconst (v := 1) C dX12_makes_109 (by decide) ?_
          refine v_goto C 114 dX12_makes_110 (by decide) ?_
          exact v_zret C dX12_makes_114 (by decide) ⟨(by clear C ih_9; rw [← g3, show d + 1 - i = 0 by clear g3 h4; grind]; show _ = (1 : Int32); clear g3 h4; grind), (congr (congrArg Prod.mk rfl) rfl)⟩
        · refine v_iload C 1 dX12_makes_104 rfl ?_
          refine v_if_eq C 113 dX12_makes_106 (by decide) (fun c_106 => ?_) (fun c_106 => ?_)
          · refine v_iconst (v := 0) C dX12_makes_113 (by decide) ?_
            exact v_zret C dX12_makes_114 (by decide) ⟨(by clear C ih_9; rw [← g3, show d + 1 - i = 0 by clear g3 h4; grind]; show _ = (1 : Int32); clear g3 h4; grind), (congr (congrArg Prod.mk rfl) rfl)⟩
          · refine v_iconst (v := 1) C dX12_makes_109 (by decide) ?_
            refine v_goto C 114 dX12_makes_110 (by decide) ?_
            exact v_zret C dX12_makes_114 (by decide) ⟨(by clear C ih_9; rw [← g3, show d + 1 - i = 0 by clear g3 h4; grind]; show _ = (1 : Int32); clear g3 h4; grind), (congr (congrArg Prod.mk rfl) rfl)⟩
      · have hL24 : ∀ (b1 : Int32), (b1 = (if i = st then 1 else bad)) → V K E A 8 (QI K E A (P_X12_makes w z wg st d)) 24 [(6, .int i), (5, .int was), (4, .int b1), (0, .ref (E.ad 12 0)), (1, .int wg), (2, .int st), (3, .int d)] [] w z := by
          intro b1 hinv
          have e1 := hinv
          have hL50 : ∀ (x : Int32), (x = (if b1 ≠ 0 ∧ inB ((z 65 0) i.toNatClampNeg) wg ≠ 0 then 1 else 0)) → V K E A 8 (QI K E A (P_X12_makes w z wg st d)) 50 [(6, .int i), (5, .int was), (4, .int b1), (0, .ref (E.ad 12 0)), (1, .int wg), (2, .int st), (3, .int d)] [.int x] w z := by
            intro x hinv
            have e3 := hinv
            refine v_istore (lv2 := [(7, .int x), (6, .int i), (5, .int was), (4, .int b1), (0, .ref (E.ad 12 0)), (1, .int wg), (2, .int st), (3, .int d)]) C dX12_makes_50 (by decide) rfl ?_
            refine v_iload C 0 dX12_makes_52 rfl ?_
            refine v_aload_n C 4 dX12_makes_54 rfl ?_
            refine v_gR C 12 0 68 67 0 (hM.2 _ (u_12 0 (by decide))) k_12 (by decide) x_1310 (fun _ _ _ => rfl) dX12_makes_55 ?_
            refine v_iload C 1 dX12_makes_58 rfl ?_
            refine v_zald C 67 0 (hM.2 _ (u_67 0 (by decide))) ⟨by decide, rfl, rfl⟩ (by exact v_in (N := 40) (by decide) (by clear g3 h4; grind) (by clear g3 h4; grind)) dX12_makes_60 ?_
            refine v_ic_eq C 66 dX12_makes_61 (by decide) (fun c_61 => ?_) (fun c_61 => ?_)
            · have hL93 : ∀ (b2 : Int32) (w2 : Int32), (b2 = (if b1 ≠ 0 ∧ ((z 66 0) i.toNatClampNeg >>> (wg.toInt64 &&& 63)) &&& 1 = 1 then 0 else b1) ∧ w2 = (if b1 ≠ 0 ∧ ((z 66 0) i.toNatClampNeg >>> (wg.toInt64 &&& 63)) &&& 1 = 1 then 1 else was)) → V K E A 8 (QI K E A (P_X12_makes w z wg st d)) 93 [(6, .int i), (5, .int w2), (4, .int b2), (0, .ref (E.ad 12 0)), (1, .int wg), (2, .int st), (3, .int d)] [] w z := by
                intro b2 w2 hinv
                obtain ⟨e4, e5⟩ := hinv
                refine v_iinc (v := i + 1) (lv2 := [(6, .int (i + 1)), (5, .int w2), (4, .int b2), (0, .ref (E.ad 12 0)), (1, .int wg), (2, .int st), (3, .int d)]) C 0 dX12_makes_93 rfl rfl (by decide) rfl ?_
                refine v_goto C 9 dX12_makes_96 (by decide) ?_
                exact ih_9 b2 w2 (i + 1) (by clear C ih_9; exact Nat.lt_of_lt_of_le (m_up (by clear g3 h4; grind) (by clear g3 h4; grind)) (Nat.le_of_lt_succ hm_)) (by clear C ih_9; refine ⟨by clear g3 h4; grind, by clear g3 h4; grind, by clear g3 h4; grind, by clear g3 h4; grind, ?_⟩; rw [← g3, m_dnn g1 (by clear g3 h4; grind), cl_succ g1 (by clear g3 h4; grind)]; simp only [exR, nI_cl g1]; rw [← e1, if_pos (by rw [← e3]; exact c_61.symm)]; rw [show b2 = (if inB ((z 66 0) i.toNatClampNeg) wg ≠ 0 then 0 else b1) by simp only [inB]; clear g3 h4; grind])
              refine v_iload C 3 dX12_makes_66 rfl ?_
              refine v_if_eq C 93 dX12_makes_68 (by decide) (fun c_68 => ?_) (fun c_68 => ?_)
              · refine v_l [1, 2, 3, 4, 5, 6, 7] rfl ?_
                exact hL93 b1 was (by clear C ih_9 hL93; clear g3 h4; grind)
              · refine v_aload_n C 4 dX12_makes_71 rfl ?_
                refine v_gR C 12 0 67 66 0 (hM.2 _ (u_12 0 (by decide))) k_12 (by decide) x_1309 (fun _ _ _ => rfl) dX12_makes_72 ?_
                refine v_iload C 1 dX12_makes_75 rfl ?_
                refine v_lald C 66 0 (hM.2 _ (u_66 0 (by decide))) ⟨by decide, rfl, rfl⟩ (by exact v_in (N := 40) (by decide) (by clear g3 h4; grind) (by clear g3 h4; grind)) dX12_makes_77 ?_
                refine v_iload_n C 5 dX12_makes_78 rfl ?_
                refine v_lshr C dX12_makes_79 ?_
                refine v_lconst (v := 1) C dX12_makes_80 (by decide) ?_
                refine v_land C dX12_makes_81 ?_
                refine v_lconst (v := 1) C dX12_makes_82 (by decide) ?_
                refine v_lcmp C dX12_makes_83 ?_
                refine v_if_ne C 93 dX12_makes_84 (by decide) (fun c_84 => ?_) (fun c_84 => ?_)
                · rw [lg_cmp_eq] at c_84
                  refine v_l [1, 2, 3, 4, 5, 6, 7] rfl ?_
                  exact hL93 b1 was (by clear C ih_9 hL93; clear g3 h4; grind)
                · rw [lg_cmp_eq] at c_84
                  refine v_iconst (v := 0) C dX12_makes_87 (by decide) ?_
                  refine v_istore (lv2 := [(4, .int 0), (7, .int x), (6, .int i), (5, .int was), (0, .ref (E.ad 12 0)), (1, .int wg), (2, .int st), (3, .int d)]) C dX12_makes_88 (by decide) rfl ?_
                  refine v_iconst (v := 1) C dX12_makes_90 (by decide) ?_
                  refine v_istore (lv2 := [(5, .int 1), (4, .int 0), (7, .int x), (6, .int i), (0, .ref (E.ad 12 0)), (1, .int wg), (2, .int st), (3, .int d)]) C dX12_makes_91 (by decide) rfl ?_
                  refine v_l [3, 0, 1, 4, 5, 6, 7] rfl ?_
                  exact hL93 0 1 (by clear C ih_9 hL93; clear g3 h4; grind)
            · refine v_iconst (v := 0) C dX12_makes_64 (by decide) ?_
              exact v_zret C dX12_makes_65 (by decide) ⟨(by clear C ih_9; rw [← g3, m_dnn g1 (by clear g3 h4; grind)]; simp only [exR, nI_cl g1]; rw [← e1, if_neg (by rw [← e3]; exact fun q => c_61 q.symm)]), (congr (congrArg Prod.mk rfl) rfl)⟩
          refine v_iload C 2 dX12_makes_24 rfl ?_
          refine v_if_eq C 49 dX12_makes_26 (by decide) (fun c_26 => ?_) (fun c_26 => ?_)
          · refine v_iconst (v := 0) C dX12_makes_49 (by decide) ?_
            exact hL50 0 (by clear C ih_9 hL50; simp only [inB]; clear g3 h4; grind)
          · refine v_aload_n C 3 dX12_makes_29 rfl ?_
            refine v_gR C 12 0 66 65 0 (hM.2 _ (u_12 0 (by decide))) k_12 (by decide) x_1308 (fun _ _ _ => rfl) dX12_makes_30 ?_
            refine v_iload C 0 dX12_makes_33 rfl ?_
            refine v_lald C 65 0 (hM.2 _ (u_65 0 (by decide))) ⟨by decide, rfl, rfl⟩ (by exact v_in (N := 40) (by decide) (by clear g3 h4; grind) (by clear g3 h4; grind)) dX12_makes_35 ?_
            refine v_iload_n C 4 dX12_makes_36 rfl ?_
            refine v_lshr C dX12_makes_37 ?_
            refine v_lconst (v := 1) C dX12_makes_38 (by decide) ?_
            refine v_land C dX12_makes_39 ?_
            refine v_lconst (v := 1) C dX12_makes_40 (by decide) ?_
            refine v_lcmp C dX12_makes_41 ?_
            refine v_if_ne C 49 dX12_makes_42 (by decide) (fun c_42 => ?_) (fun c_42 => ?_)
            · rw [lg_cmp_eq] at c_42
              refine v_iconst (v := 0) C dX12_makes_49 (by decide) ?_
              exact hL50 0 (by clear C ih_9 hL50; simp only [inB]; clear g3 h4; grind)
            · rw [lg_cmp_eq] at c_42
              refine v_iconst (v := 1) C dX12_makes_45 (by decide) ?_
              refine v_goto C 50 dX12_makes_46 (by decide) ?_
              exact hL50 1 (by clear C ih_9 hL50; simp only [inB]; clear g3 h4; grind)
        refine v_iload C 0 dX12_makes_15 rfl ?_
        refine v_iload_n C 5 dX12_makes_17 rfl ?_
        refine v_ic_ne C 24 dX12_makes_18 (by decide) (fun c_18 => ?_) (fun c_18 => ?_)
        · exact hL24 bad (by clear C ih_9 hL24; clear g3 h4; grind)
        · refine v_iconst (v := 1) C dX12_makes_21 (by decide) ?_
          refine v_istore (lv2 := [(4, .int 1), (6, .int i), (5, .int was), (0, .ref (E.ad 12 0)), (1, .int wg), (2, .int st), (3, .int d)]) C dX12_makes_22 (by decide) rfl ?_
          refine v_l [1, 2, 0, 3, 4, 5, 6] rfl ?_
          exact hL24 1 (by clear C ih_9 hL24; clear g3 h4; grind)
  exact hL9 _ 0 0 0 (Nat.lt_succ_self _) (by clear C hL9; exact ⟨by decide, by clear h4; grind, by clear h4; grind, by clear h4; grind, by rw [show d + 1 - 0 = d + 1 by grind]; rfl⟩)
abbrev P_X12_latest (w : Wi) (z : Wj) (wg : Int32) (d : Int32) : Int32 → WW → Prop := fun r_ u_ => r_ = ((lsR (exF (z 65 0) (z 66 0) (w 67 0) wg d) (d + 1).toNatClampNeg)) ∧ u_ = (w, z)
set_option maxHeartbeats 4000000 in
set_option maxRecDepth 100000 in
theorem c_X12_latest (E : En) (hM : q_okM E) (w : Wi) (z : Wj) (wg : Int32) (d : Int32) (h1 : 0 ≤ d) (h2 : d < 40) (h4 : ∀ k, (w 67 0) k = 0 ∨ (w 67 0) k = 1) : CtI M_X12_latest E [.ref (E.ad 12 0), .int wg, .int d] w z (P_X12_latest w z wg d) := by
  have hE := hM.1
  refine ctI_of (lv := [(0, .ref (E.ad 12 0)), (1, .int wg), (2, .int d)]) hE m_X12_latest (Nat.le_of_ble_eq_true rfl) rfl ?_
  intro K A C0
  have C : Cx K E A cX12_latest 4 RX12 (some .int) { frames := 1, cells := 0, slots := 0, locals := 27 } := C0
  clear C0
  refine v_iload_n C 2 dX12_latest_0 rfl ?_
  refine v_istore_n (lv2 := [(3, .int d), (0, .ref (E.ad 12 0)), (1, .int wg), (2, .int d)]) C dX12_latest_1 rfl (by decide) rfl ?_
  have hL2 : ∀ (n_ : Nat) (i : Int32), (i + 1).toNatClampNeg < n_ → ((-1) ≤ i ∧ i ≤ d ∧ lsR (exF (z 65 0) (z 66 0) (w 67 0) wg d) (i + 1).toNatClampNeg = (lsR (exF (z 65 0) (z 66 0) (w 67 0) wg d) (d + 1).toNatClampNeg)) → V K E A 4 (QI K E A (P_X12_latest w z wg d)) 2 [(3, .int i), (0, .ref (E.ad 12 0)), (1, .int wg), (2, .int d)] [] w z := by
    intro n_
    induction n_ with
    | zero => intro i hm_; exact absurd hm_ (Nat.not_lt_zero _)
    | succ n_ ih_2 =>
      intro i hm_ hinv
      obtain ⟨g1, g2, g3⟩ := hinv
      refine v_iload_n C 0 dX12_latest_2 rfl ?_
      refine v_if_lt C 24 dX12_latest_3 (by decide) (fun c_3 => ?_) (fun c_3 => ?_)
      · refine v_iconst (v := (-1)) C dX12_latest_24 (by decide) ?_
        exact v_iret C dX12_latest_25 ⟨(by clear C ih_2; rw [← g3, show i + 1 = 0 by clear g3 h4; grind]; rfl), (congr (congrArg Prod.mk rfl) rfl)⟩
      · refine v_aload_n C 1 dX12_latest_6 rfl ?_
        refine v_iload_n C 2 dX12_latest_7 rfl ?_
        refine v_iload_n C 0 dX12_latest_8 rfl ?_
        refine v_iload_n C 3 dX12_latest_9 rfl ?_
        refine v_vI C 12 0 [.int wg, .int i, .int d] 3 (c_X12_makes E hM _ _  wg i d  (by clear C ih_2; clear g3 h4; grind) (by clear C ih_2; clear g3 h4; grind) (by clear C ih_2; clear g3 h4; grind) (by clear C ih_2; exact h4)) m_X12_makes x_1731 x_1733 x_70 p_X12_makes rfl ⟨Nat.le_of_ble_eq_true rfl, Nat.le_of_ble_eq_true rfl⟩ (hM.2 _ (u_12 0 (by decide))) k_12 rfl (Nat.le_of_ble_eq_true rfl) dX12_latest_10 (fun r1 u1 v1 hp1 => ?_)
        obtain ⟨hr1, hu1⟩ := hp1
        subst hr1
        cases hu1
        refine v_if_eq C 18 dX12_latest_13 (by decide) (fun c_13 => ?_) (fun c_13 => ?_)
        · refine v_iinc (v := i + (-1)) (lv2 := [(3, .int (i + (-1))), (0, .ref (E.ad 12 0)), (1, .int wg), (2, .int d)]) C 0 dX12_latest_18 rfl rfl (by decide) rfl ?_
          refine v_goto C 2 dX12_latest_21 (by decide) ?_
          exact ih_2 (i + (-1)) (by clear C ih_2; rcases m_dn (i := i) (by clear g3 h4; grind) with q | q; exact Nat.lt_of_lt_of_le q (Nat.le_of_lt_succ hm_); exact absurd q (by clear g3 h4; grind)) (by clear C ih_2; exact ⟨by clear g3 h4; grind, by clear g3 h4; grind, by rw [← g3, show i + (-1) + 1 = i by grind, cl_succ (by clear g3 h4; grind) (by clear g3 h4; grind)]; simp only [lsR, exF, nI_cl (show (0 : Int32) ≤ i by clear g3 h4; grind)]; rw [if_neg (not_not_intro (by assumption))]⟩)
        · refine v_iload_n C 0 dX12_latest_16 rfl ?_
          exact v_iret C dX12_latest_17 ⟨(by clear C ih_2; rw [← g3, cl_succ (by clear g3 h4; grind) (by clear g3 h4; grind)]; simp only [lsR, exF, nI_cl (show (0 : Int32) ≤ i by clear g3 h4; grind)]; rw [if_pos (by assumption)]), (congr (congrArg Prod.mk rfl) rfl)⟩
  exact hL2 _ d (Nat.lt_succ_self _) (by clear C hL2; exact ⟨by clear h4; grind, by clear h4; grind, rfl⟩)
abbrev P_X12_suspects (w : Wi) (z : Wj) (d : Int32) : Int32 → WW → Prop := fun r_ u_ => r_ = (if (d < 0 ∨ (w 1129 0 0) ≤ d) then (-1) else (fsR (lsF (z 65 0) (z 66 0) (w 67 0) d) (w 68 0) 40).2) ∧ u_ = ((wS (wS (wS w 68 0 (if (d < 0 ∨ (w 1129 0 0) ≤ d) then (w 68 0) else (fsR (lsF (z 65 0) (z 66 0) (w 67 0) d) (w 68 0) 40).1)) 1060 0 (fun _ => 0)) 1131 0 (fun _ => if (d < 0 ∨ (w 1129 0 0) ≤ d) then (w 1131 0 0) else (fsR (lsF (z 65 0) (z 66 0) (w 67 0) d) (w 68 0) 40).2)), z)
set_option maxHeartbeats 4000000 in
set_option maxRecDepth 100000 in
theorem c_X12_suspects (E : En) (hM : q_okM E) (w : Wi) (z : Wj) (d : Int32) (h1 : (w 1129 0 0) ≤ 40) (h4 : ∀ k, (w 67 0) k = 0 ∨ (w 67 0) k = 1) : CtI M_X12_suspects E [.ref (E.ad 12 0), .int d] w z (P_X12_suspects w z d) := by
  have hE := hM.1
  refine ctI_of (lv := [(0, .ref (E.ad 12 0)), (1, .int d)]) hE m_X12_suspects (Nat.le_of_ble_eq_true rfl) rfl ?_
  intro K A C0
  have C : Cx K E A cX12_suspects 3 RX12 (some .int) { frames := 2, cells := 0, slots := 0, locals := 50 } := C0
  clear C0
  refine v_aload_n C 0 dX12_suspects_0 rfl ?_
  refine v_iconst (v := 0) C dX12_suspects_1 (by decide) ?_
  refine v_pI C 12 0 0 1060 (hM.2 _ (u_12 0 (by decide))) k_12 ty_12 (by decide) rfl ⟨rfl, rfl⟩ x_1242 rfl rfl dX12_suspects_2 ?_
  refine v_iload_n C 1 dX12_suspects_5 rfl ?_
  refine v_if_lt C 17 dX12_suspects_6 (by decide) (fun c_6 => ?_) (fun c_6 => ?_)
  · refine v_iconst (v := (-1)) C dX12_suspects_17 (by decide) ?_
    refine v_w (wS_id _ 68 0).symm ?_
    refine v_tS C 1131 0 (by decide) ?_
    refine v_w (w2 := (wS (wS (wS w 68 0 (w 68 0)) 1060 0 (fun _ => 0)) 1131 0 (fun _ => (w 1131 0 0)))) (by simp only [wS_s, wS_t, wS_a, ne_eq, Nat.reduceEqDiff, not_false_eq_true, wS_wS, wS_p, wS_pp, Nat.reduceLT, id_eq, L7_1]) ?_
    exact v_iret C dX12_suspects_18 ⟨(by clear C; first | rfl | rw [if_pos (by clear h4; grind)]), (congr (congrArg Prod.mk (wS_eq (wS_eq (wS_eq rfl (by clear C; first | rfl | rw [if_pos (by clear h4; grind)])) rfl) (fu_eq (by clear C; first | rfl | rw [if_pos (by clear h4; grind)])))) rfl)⟩
  · refine v_iload_n C 1 dX12_suspects_9 rfl ?_
    refine v_aload_n C 0 dX12_suspects_10 rfl ?_
    refine v_gI C 12 0 69 1129 (w 1129 0 0) (hM.2 _ (u_12 0 (by decide))) k_12 (by decide) rfl rfl x_1311 (by simp only [wS_s, wS_t, wS_a, ne_eq, Nat.reduceEqDiff, not_false_eq_true, L7_1]) dX12_suspects_11 ?_
    refine v_ic_lt C 19 dX12_suspects_14 (by decide) (fun c_14 => ?_) (fun c_14 => ?_)
    · refine v_aload_n C 0 dX12_suspects_19 rfl ?_
      refine v_iconst (v := 0) C dX12_suspects_20 (by decide) ?_
      refine v_pI C 12 0 71 1131 (hM.2 _ (u_12 0 (by decide))) k_12 ty_12 (by decide) rfl ⟨rfl, rfl⟩ x_1313 rfl rfl dX12_suspects_21 ?_
      refine v_iconst (v := 0) C dX12_suspects_24 (by decide) ?_
      refine v_istore_n (lv2 := [(2, .int 0), (0, .ref (E.ad 12 0)), (1, .int d)]) C dX12_suspects_25 rfl (by decide) rfl ?_
      have hL26 : ∀ (n_ : Nat) (i : Int32) (F : Row) (n : Int32), (40 - i).toNatClampNeg < n_ → (0 ≤ i ∧ i ≤ 40 ∧ 0 ≤ n ∧ n ≤ i ∧ (0 ≤ d ∧ d < (w 1129 0 0)) ∧ fsR (lsF (z 65 0) (z 66 0) (w 67 0) d) (w 68 0) i.toNatClampNeg = (F, n)) → V K E A 3 (QI K E A (P_X12_suspects w z d)) 26 [(2, .int i), (0, .ref (E.ad 12 0)), (1, .int d)] [] (wS (wS (wS w 68 0 F) 1060 0 (fun _ => 0)) 1131 0 (fun _ => n)) z := by
        intro n_
        induction n_ with
        | zero => intro i F n hm_; exact absurd hm_ (Nat.not_lt_zero _)
        | succ n_ ih_26 =>
          intro i F n hm_ hinv
          obtain ⟨g1, g2, g3, g4, gd, g5⟩ := hinv
          refine v_iload_n C 0 dX12_suspects_26 rfl ?_
          refine v_bipush (v := 40) C dX12_suspects_27 (by decide) ?_
          refine v_ic_ge C 71 dX12_suspects_29 (by decide) (fun c_29 => ?_) (fun c_29 => ?_)
          · refine v_aload_n C 1 dX12_suspects_71 rfl ?_
            refine v_gI C 12 0 71 1131 n (hM.2 _ (u_12 0 (by decide))) k_12 (by decide) rfl rfl x_1313 (by simp only [wS_s, wS_t, wS_a, ne_eq, Nat.reduceEqDiff, not_false_eq_true, L7_1]) dX12_suspects_72 ?_
            have hi : i = 40 := (by clear g5 h4; grind)
            subst hi
            have g6 : fsR (lsF (z 65 0) (z 66 0) (w 67 0) d) (w 68 0) 40 = (F, n) := g5
            exact v_iret C dX12_suspects_75 ⟨(by clear C ih_26; first | rfl | rw [if_neg (by clear g5 g6 h4; grind), g6]), (congr (congrArg Prod.mk (wS_eq (wS_eq (wS_eq rfl (by clear C ih_26; first | rfl | rw [if_neg (by clear g5 g6 h4; grind), g6])) rfl) (fu_eq (by clear C ih_26; first | rfl | rw [if_neg (by clear g5 g6 h4; grind), g6])))) rfl)⟩
          · refine v_aload_n C 1 dX12_suspects_32 rfl ?_
            refine v_iload_n C 0 dX12_suspects_33 rfl ?_
            refine v_iload_n C 2 dX12_suspects_34 rfl ?_
            refine v_vI C 12 0 [.int i, .int d] 2 (c_X12_latest E hM _ _  i d  (by clear C ih_26; (try simp only [wS_s, wS_t, wS_a, ne_eq, Nat.reduceEqDiff, not_false_eq_true, L7_1]); exact gd.1) (by clear C ih_26; (try simp only [wS_s, wS_t, wS_a, ne_eq, Nat.reduceEqDiff, not_false_eq_true, L7_1]); clear g5 h4; grind) (by clear C ih_26; (try simp only [wS_s, wS_t, wS_a, ne_eq, Nat.reduceEqDiff, not_false_eq_true, L7_1]); exact h4)) m_X12_latest x_1727 x_1729 x_69 p_X12_latest rfl ⟨Nat.le_of_ble_eq_true rfl, Nat.le_of_ble_eq_true rfl⟩ (hM.2 _ (u_12 0 (by decide))) k_12 rfl (Nat.le_of_ble_eq_true rfl) dX12_suspects_35 (fun r1 u1 v1 hp1 => ?_)
            obtain ⟨hr1, hu1⟩ := hp1
            subst hr1
            cases hu1
            refine v_i (y := (lsR (exF (z 65 0) (z 66 0) (w 67 0) i d) (d + 1).toNatClampNeg)) (by simp only [wS_s, wS_t, wS_a, ne_eq, Nat.reduceEqDiff, not_false_eq_true, L7_1]) ?_
            refine v_iconst (v := (-1)) C dX12_suspects_38 (by decide) ?_
            refine v_ic_ne C 45 dX12_suspects_39 (by decide) (fun c_39 => ?_) (fun c_39 => ?_)
            · refine v_aload_n C 1 dX12_suspects_45 rfl ?_
              refine v_gR C 12 0 70 68 0 (hM.2 _ (u_12 0 (by decide))) k_12 (by decide) x_1312 (fun _ _ _ => rfl) dX12_suspects_46 ?_
              refine v_aload_n C 1 dX12_suspects_49 rfl ?_
              refine v_gI C 12 0 71 1131 n (hM.2 _ (u_12 0 (by decide))) k_12 (by decide) rfl rfl x_1313 (by simp only [wS_s, wS_t, wS_a, ne_eq, Nat.reduceEqDiff, not_false_eq_true, L7_1]) dX12_suspects_50 ?_
              refine v_iload_n C 0 dX12_suspects_53 rfl ?_
              refine v_iast C 68 0 (hM.2 _ (u_68 0 (by decide))) ⟨by decide, rfl, rfl⟩ (by exact v_in (N := 40) (by decide) (by clear g5 h4; grind) (by clear g5 h4; grind)) dX12_suspects_54 ?_
              refine v_aload_n C 1 dX12_suspects_55 rfl ?_
              refine v_dup C dX12_suspects_56 rfl ?_
              refine v_gI C 12 0 71 1131 n (hM.2 _ (u_12 0 (by decide))) k_12 (by decide) rfl rfl x_1313 (by simp only [wS_s, wS_t, wS_a, ne_eq, Nat.reduceEqDiff, not_false_eq_true, L7_1]) dX12_suspects_57 ?_
              refine v_iconst (v := 1) C dX12_suspects_60 (by decide) ?_
              refine v_iadd C dX12_suspects_61 ?_
              refine v_pI C 12 0 71 1131 (hM.2 _ (u_12 0 (by decide))) k_12 ty_12 (by decide) rfl ⟨rfl, rfl⟩ x_1313 rfl rfl dX12_suspects_62 ?_
              refine v_iinc (v := i + 1) (lv2 := [(2, .int (i + 1)), (0, .ref (E.ad 12 0)), (1, .int d)]) C 0 dX12_suspects_65 rfl rfl (by decide) rfl ?_
              refine v_goto C 26 dX12_suspects_68 (by decide) ?_
              refine v_w (w2 := (wS (wS (wS w 68 0 (upd F n.toNatClampNeg i)) 1060 0 (fun _ => 0)) 1131 0 (fun _ => (n + 1)))) (by simp only [wS_s, wS_t, wS_a, ne_eq, Nat.reduceEqDiff, not_false_eq_true, wS_wS, wS_p, wS_pp, Nat.reduceLT, id_eq, L7_1]) ?_
              exact ih_26 (i + 1) (upd F n.toNatClampNeg i) (n + 1) (by clear C ih_26; exact Nat.lt_of_lt_of_le (m_up (by clear g5 h4; grind) (by clear g5 h4; grind)) (Nat.le_of_lt_succ hm_)) (by clear C ih_26; refine ⟨by clear g5 h4; grind, by clear g5 h4; grind, by clear g5 h4; grind, by clear g5 h4; grind, gd, ?_⟩; rw [cl_succ g1 (by clear g5 h4; grind)]; simp only [fsR, g5]; have e2 : lsF (z 65 0) (z 66 0) (w 67 0) d i.toNatClampNeg = lsR (exF (z 65 0) (z 66 0) (w 67 0) i d) (d + 1).toNatClampNeg := (by simp only [lsF, nI_cl g1]); rw [e2]; first | rw [if_neg (not_not_intro (by assumption))] | rw [if_pos (by assumption), nI_cl g1])
            · refine v_goto C 65 dX12_suspects_42 (by decide) ?_
              refine v_iinc (v := i + 1) (lv2 := [(2, .int (i + 1)), (0, .ref (E.ad 12 0)), (1, .int d)]) C 0 dX12_suspects_65 rfl rfl (by decide) rfl ?_
              refine v_goto C 26 dX12_suspects_68 (by decide) ?_
              exact ih_26 (i + 1) F n (by clear C ih_26; exact Nat.lt_of_lt_of_le (m_up (by clear g5 h4; grind) (by clear g5 h4; grind)) (Nat.le_of_lt_succ hm_)) (by clear C ih_26; refine ⟨by clear g5 h4; grind, by clear g5 h4; grind, by clear g5 h4; grind, by clear g5 h4; grind, gd, ?_⟩; rw [cl_succ g1 (by clear g5 h4; grind)]; simp only [fsR, g5]; have e2 : lsF (z 65 0) (z 66 0) (w 67 0) d i.toNatClampNeg = lsR (exF (z 65 0) (z 66 0) (w 67 0) i d) (d + 1).toNatClampNeg := (by simp only [lsF, nI_cl g1]); rw [e2]; first | rw [if_neg (not_not_intro (by assumption))] | rw [if_pos (by assumption), nI_cl g1])
      refine v_w (wS_id _ 68 0).symm ?_
      refine v_w (w2 := (wS (wS (wS w 68 0 (w 68 0)) 1060 0 (fun _ => 0)) 1131 0 (fun _ => 0))) (by simp only [wS_s, wS_t, wS_a, ne_eq, Nat.reduceEqDiff, not_false_eq_true, wS_wS, wS_p, wS_pp, Nat.reduceLT, id_eq, L7_1]) ?_
      exact hL26 _ 0 (w 68 0) 0 (Nat.lt_succ_self _) (by clear C hL26; exact ⟨by decide, by decide, by decide, by decide, by clear h4; grind, rfl⟩)
    · refine v_iconst (v := (-1)) C dX12_suspects_17 (by decide) ?_
      refine v_w (wS_id _ 68 0).symm ?_
      refine v_tS C 1131 0 (by decide) ?_
      refine v_w (w2 := (wS (wS (wS w 68 0 (w 68 0)) 1060 0 (fun _ => 0)) 1131 0 (fun _ => (w 1131 0 0)))) (by simp only [wS_s, wS_t, wS_a, ne_eq, Nat.reduceEqDiff, not_false_eq_true, wS_wS, wS_p, wS_pp, Nat.reduceLT, id_eq, L7_1]) ?_
      exact v_iret C dX12_suspects_18 ⟨(by clear C; first | rfl | rw [if_pos (by clear h4; grind)]), (congr (congrArg Prod.mk (wS_eq (wS_eq (wS_eq rfl (by clear C; first | rfl | rw [if_pos (by clear h4; grind)])) rfl) (fu_eq (by clear C; first | rfl | rw [if_pos (by clear h4; grind)])))) rfl)⟩
