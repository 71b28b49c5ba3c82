abbrev P_X12_fitsGauges (w : Wi) (z : Wj) (off : Int32) (hot : Int32) : Int32 → WW → Prop := fun r_ u_ => ∃ (uh_ : Wi), r_ = (fgE ((w 1074 0 0), (w 1075 0 0), (w 1076 0 0), (w 46 0), (w 47 0), (w 48 0), (w 49 0), (w 50 0), (w 51 0)) hot (fgR ((w 60 0), (w 61 0), (w 62 0), ((w 1119 0 0)).toNatClampNeg, off) ((w 1074 0 0), (w 1075 0 0), (w 1076 0 0), (w 46 0), (w 47 0), (w 48 0), (w 49 0), (w 50 0), (w 51 0)) ((w 1084 0 0), (w 1086 0 0), (w 43 0), (w 44 0), (w 45 0)) (w 1099 0 0) (w 1100 0 0) (w 1101 0 0) (mxR (w 60 0) ((w 1119 0 0)).toNatClampNeg).toNatClampNeg 1 (bgG ((w 1074 0 0), (w 1075 0 0), (w 1076 0 0), (w 46 0), (w 47 0), (w 48 0), (w 49 0), (w 50 0), (w 51 0)) (w 52 0) (w 53 0) (w 54 0)))) ∧ u_ = ((wB (wS (wS (wS w 52 0 ((fgR ((w 60 0), (w 61 0), (w 62 0), ((w 1119 0 0)).toNatClampNeg, off) ((w 1074 0 0), (w 1075 0 0), (w 1076 0 0), (w 46 0), (w 47 0), (w 48 0), (w 49 0), (w 50 0), (w 51 0)) ((w 1084 0 0), (w 1086 0 0), (w 43 0), (w 44 0), (w 45 0)) (w 1099 0 0) (w 1100 0 0) (w 1101 0 0) (mxR (w 60 0) ((w 1119 0 0)).toNatClampNeg).toNatClampNeg 1 (bgG ((w 1074 0 0), (w 1075 0 0), (w 1076 0 0), (w 46 0), (w 47 0), (w 48 0), (w 49 0), (w 50 0), (w 51 0)) (w 52 0) (w 53 0) (w 54 0))).2.1)) 53 0 ((fgR ((w 60 0), (w 61 0), (w 62 0), ((w 1119 0 0)).toNatClampNeg, off) ((w 1074 0 0), (w 1075 0 0), (w 1076 0 0), (w 46 0), (w 47 0), (w 48 0), (w 49 0), (w 50 0), (w 51 0)) ((w 1084 0 0), (w 1086 0 0), (w 43 0), (w 44 0), (w 45 0)) (w 1099 0 0) (w 1100 0 0) (w 1101 0 0) (mxR (w 60 0) ((w 1119 0 0)).toNatClampNeg).toNatClampNeg 1 (bgG ((w 1074 0 0), (w 1075 0 0), (w 1076 0 0), (w 46 0), (w 47 0), (w 48 0), (w 49 0), (w 50 0), (w 51 0)) (w 52 0) (w 53 0) (w 54 0))).2.2.1)) 54 0 ((fgR ((w 60 0), (w 61 0), (w 62 0), ((w 1119 0 0)).toNatClampNeg, off) ((w 1074 0 0), (w 1075 0 0), (w 1076 0 0), (w 46 0), (w 47 0), (w 48 0), (w 49 0), (w 50 0), (w 51 0)) ((w 1084 0 0), (w 1086 0 0), (w 43 0), (w 44 0), (w 45 0)) (w 1099 0 0) (w 1100 0 0) (w 1101 0 0) (mxR (w 60 0) ((w 1119 0 0)).toNatClampNeg).toNatClampNeg 1 (bgG ((w 1074 0 0), (w 1075 0 0), (w 1076 0 0), (w 46 0), (w 47 0), (w 48 0), (w 49 0), (w 50 0), (w 51 0)) (w 52 0) (w 53 0) (w 54 0))).2.2.2)) SF uh_), z)
set_option maxHeartbeats 4000000 in
set_option maxRecDepth 100000 in
theorem c_X12_fitsGauges (E : En) (hM : q_okM E) (w : Wi) (z : Wj) (off : Int32) (hot : Int32) (h1 : 1 ≤ (w 1074 0 0)) (h2 : (w 1074 0 0) ≤ 16) (h3 : 0 ≤ (w 1084 0 0)) (h4 : (w 1084 0 0) ≤ 20) (h5 : 0 ≤ (w 1100 0 0)) (h6 : (w 1100 0 0) < 16) (h7 : 0 ≤ (w 1119 0 0)) (h8 : (w 1119 0 0) ≤ 8) (h9 : mxR (w 60 0) ((w 1119 0 0)).toNatClampNeg ≤ 400) : CtI M_X12_fitsGauges E [.ref (E.ad 12 0), .int off, .int hot] w z (P_X12_fitsGauges w z off hot) := by
  have hE := hM.1
  refine ctI_of (lv := [(0, .ref (E.ad 12 0)), (1, .int off), (2, .int hot)]) hE m_X12_fitsGauges (Nat.le_of_ble_eq_true rfl) rfl ?_
  intro K A C0
  have C : Cx K E A cX12_fitsGauges 6 RX12 (some .boolean) { frames := 3, cells := 0, slots := 0, locals := 70 } := C0
  clear C0
  obtain ⟨G, hG⟩ : ∃ G : Int32 × PTC, G = (fgR ((w 60 0), (w 61 0), (w 62 0), ((w 1119 0 0)).toNatClampNeg, off) ((w 1074 0 0), (w 1075 0 0), (w 1076 0 0), (w 46 0), (w 47 0), (w 48 0), (w 49 0), (w 50 0), (w 51 0)) ((w 1084 0 0), (w 1086 0 0), (w 43 0), (w 44 0), (w 45 0)) (w 1099 0 0) (w 1100 0 0) (w 1101 0 0) (mxR (w 60 0) ((w 1119 0 0)).toNatClampNeg).toNatClampNeg 1 (bgG ((w 1074 0 0), (w 1075 0 0), (w 1076 0 0), (w 46 0), (w 47 0), (w 48 0), (w 49 0), (w 50 0), (w 51 0)) (w 52 0) (w 53 0) (w 54 0))) := ⟨_, rfl⟩
  have m0 := mxR_0 (w 60 0) (w 1119 0 0).toNatClampNeg
  refine v_iconst (v := 0) C dX12_fitsGauges_0 (by decide) ?_
  refine v_istore_n (lv2 := [(3, .int 0), (0, .ref (E.ad 12 0)), (1, .int off), (2, .int hot)]) C dX12_fitsGauges_1 rfl (by decide) rfl ?_
  refine v_iconst (v := 0) C dX12_fitsGauges_2 (by decide) ?_
  refine v_istore (lv2 := [(4, .int 0), (3, .int 0), (0, .ref (E.ad 12 0)), (1, .int off), (2, .int hot)]) C dX12_fitsGauges_3 (by decide) rfl ?_
  have hL5 : ∀ (n_ : Nat) (la : Int32) (i : Int32), (100 - i).toNatClampNeg < n_ → (0 ≤ i ∧ i ≤ (w 1119 0 0) ∧ la = mxR (w 60 0) i.toNatClampNeg) → V K E A 6 (QI K E A (P_X12_fitsGauges w z off hot)) 5 [(4, .int i), (3, .int la), (0, .ref (E.ad 12 0)), (1, .int off), (2, .int hot)] [] w z := by
    intro n_
    induction n_ with
    | zero => intro la i hm_; exact absurd hm_ (Nat.not_lt_zero _)
    | succ n_ ih_5 =>
      intro la i hm_ hinv
      obtain ⟨g1, g2, g3⟩ := hinv
      have hL39 : (la = (mxR (w 60 0) (w 1119 0 0).toNatClampNeg)) → V K E A 6 (QI K E A (P_X12_fitsGauges w z off hot)) 39 [(3, .int la), (0, .ref (E.ad 12 0)), (1, .int off), (2, .int hot)] [] w z := by
        intro  hinv
        have el := hinv
        rw [← el] at h9 m0
        refine v_aload_n C 1 dX12_fitsGauges_39 rfl ?_
        refine v_vV C 12 0 [] 0 (c_X12_begin E hM _ _    (by clear C ih_5; exact h1) (by clear C ih_5; exact h2)) m_X12_begin x_1585 x_1587 x_55 p_X12_begin rfl ⟨Nat.le_of_ble_eq_true rfl, Nat.le_of_ble_eq_true rfl⟩ (hM.2 _ (u_12 0 (by decide))) k_12 rfl (Nat.le_of_ble_eq_true rfl) dX12_fitsGauges_40 (fun u1 v1 hp1 => ?_)
        have hu1 := hp1
        cases hu1
        refine v_iconst (v := 1) C dX12_fitsGauges_43 (by decide) ?_
        refine v_istore (lv2 := [(4, .int 1), (3, .int la), (0, .ref (E.ad 12 0)), (1, .int off), (2, .int hot)]) C dX12_fitsGauges_44 (by decide) rfl ?_
        have hL46 : ∀ (n_ : Nat) (t : Int32) (Pp : Row) (Tt : Row) (Yy : Row) (U : Wi), (500 - t).toNatClampNeg < n_ → (1 ≤ t ∧ t ≤ la + 1 ∧ fgR ((w 60 0), (w 61 0), (w 62 0), ((w 1119 0 0)).toNatClampNeg, off) ((w 1074 0 0), (w 1075 0 0), (w 1076 0 0), (w 46 0), (w 47 0), (w 48 0), (w 49 0), (w 50 0), (w 51 0)) ((w 1084 0 0), (w 1086 0 0), (w 43 0), (w 44 0), (w 45 0)) (w 1099 0 0) (w 1100 0 0) (w 1101 0 0) (la + 1 - t).toNatClampNeg t (Pp, Tt, Yy) = G) → V K E A 6 (QI K E A (P_X12_fitsGauges w z off hot)) 46 [(4, .int t), (3, .int la), (0, .ref (E.ad 12 0)), (1, .int off), (2, .int hot)] [] (wB (wS (wS (wS w 52 0 Pp) 53 0 Tt) 54 0 Yy) SF U) z := by
          intro n_
          induction n_ with
          | zero => intro t Pp Tt Yy U hm_; exact absurd hm_ (Nat.not_lt_zero _)
          | succ n_ ih_46 =>
            intro t Pp Tt Yy U hm_ hinv
            obtain ⟨k1, k2, k3⟩ := hinv
            have hm1 := hm_
            refine v_iload C 0 dX12_fitsGauges_46 rfl ?_
            refine v_iload_n C 1 dX12_fitsGauges_48 rfl ?_
            refine v_ic_gt C 139 dX12_fitsGauges_49 (by decide) (fun c_49 => ?_) (fun c_49 => ?_)
            · refine v_iload_n C 4 dX12_fitsGauges_139 rfl ?_
              refine v_iconst (v := (-1)) C dX12_fitsGauges_140 (by decide) ?_
              refine v_ic_eq C 152 dX12_fitsGauges_141 (by decide) (fun c_141 => ?_) (fun c_141 => ?_)
              · refine v_iconst (v := 1) C dX12_fitsGauges_152 (by decide) ?_
                refine v_goto C 157 dX12_fitsGauges_153 (by decide) ?_
                have hY : G = (1, Pp, Tt, Yy) := by rw [← k3, show la + 1 - t = 0 by clear k3; grind]; rfl
                exact v_zret C dX12_fitsGauges_157 (by decide) ⟨_, (by clear C ih_5 ih_46; rw [← hG, hY]; simp only [fgE]; clear k3 hY; first | (rw [if_pos (by grind)]; done) | (rw [if_neg (by grind)]; done)), (congr (congrArg Prod.mk ((kp_e (kp_add (e := Yy) (by simp (decide := true) only [wB_o, wB_i, wS_s, wS_t, wS_a, ne_eq, Nat.reduceEqDiff, not_false_eq_true, L7_1]) (kp_add (e := Tt) (by simp (decide := true) only [wB_o, wB_i, wS_s, wS_t, wS_a, ne_eq, Nat.reduceEqDiff, not_false_eq_true, L7_1]) (kp_add (e := Pp) (by simp (decide := true) only [wB_o, wB_i, wS_s, wS_t, wS_a, ne_eq, Nat.reduceEqDiff, not_false_eq_true, L7_1]) (kp_B (by decide) (kp_S (by decide) (kp_S (by decide) (kp_S (by decide) kp_r)))))))).trans (congrArg (fun c_ => wB c_ SF _) (wS_eq (wS_eq (wS_eq rfl (by clear C ih_5 ih_46; rw [← hG, hY])) (by clear C ih_5 ih_46; rw [← hG, hY])) (by clear C ih_5 ih_46; rw [← hG, hY]))))) rfl)⟩
              · refine v_aload_n C 2 dX12_fitsGauges_144 rfl ?_
                refine v_vI C 12 0 [] 0 (c_X12_hotNow E hM _ _    (by clear C ih_5 ih_46; (try simp (decide := true) only [wB_o, wB_i, wS_s, wS_t, wS_a, ne_eq, Nat.reduceEqDiff, not_false_eq_true, L7_1]); exact h1) (by clear C ih_5 ih_46; (try simp (decide := true) only [wB_o, wB_i, wS_s, wS_t, wS_a, ne_eq, Nat.reduceEqDiff, not_false_eq_true, L7_1]); exact h2)) m_X12_hotNow x_1688 x_1690 x_66 p_X12_hotNow rfl ⟨Nat.le_of_ble_eq_true rfl, Nat.le_of_ble_eq_true rfl⟩ (hM.2 _ (u_12 0 (by decide))) k_12 rfl (Nat.le_of_ble_eq_true rfl) dX12_fitsGauges_145 (fun r2 u2 v2 hp2 => ?_)
                obtain ⟨hr2, hu2⟩ := hp2
                subst hr2
                cases hu2
                refine v_i (y := hotR Yy ((w 1074 0 0) + 1).toNatClampNeg) (by simp (decide := true) only [wB_o, wB_i, wS_s, wS_t, wS_a, ne_eq, Nat.reduceEqDiff, not_false_eq_true, L7_1]) ?_
                refine v_iload_n C 4 dX12_fitsGauges_148 rfl ?_
                refine v_ic_ne C 156 dX12_fitsGauges_149 (by decide) (fun c_149 => ?_) (fun c_149 => ?_)
                · refine v_iconst (v := 0) C dX12_fitsGauges_156 (by decide) ?_
                  have hY : G = (1, Pp, Tt, Yy) := by rw [← k3, show la + 1 - t = 0 by clear k3; grind]; rfl
                  exact v_zret C dX12_fitsGauges_157 (by decide) ⟨_, (by clear C ih_5 ih_46; rw [← hG, hY]; simp only [fgE]; clear k3 hY; first | (rw [if_pos (by grind)]; done) | (rw [if_neg (by grind)]; done)), (congr (congrArg Prod.mk ((kp_e (kp_add (e := Yy) (by simp (decide := true) only [wB_o, wB_i, wS_s, wS_t, wS_a, ne_eq, Nat.reduceEqDiff, not_false_eq_true, L7_1]) (kp_add (e := Tt) (by simp (decide := true) only [wB_o, wB_i, wS_s, wS_t, wS_a, ne_eq, Nat.reduceEqDiff, not_false_eq_true, L7_1]) (kp_add (e := Pp) (by simp (decide := true) only [wB_o, wB_i, wS_s, wS_t, wS_a, ne_eq, Nat.reduceEqDiff, not_false_eq_true, L7_1]) (kp_B (by decide) (kp_S (by decide) (kp_S (by decide) (kp_S (by decide) kp_r)))))))).trans (congrArg (fun c_ => wB c_ SF _) (wS_eq (wS_eq (wS_eq rfl (by clear C ih_5 ih_46; rw [← hG, hY])) (by clear C ih_5 ih_46; rw [← hG, hY])) (by clear C ih_5 ih_46; rw [← hG, hY]))))) rfl)⟩
                · refine v_iconst (v := 1) C dX12_fitsGauges_152 (by decide) ?_
                  refine v_goto C 157 dX12_fitsGauges_153 (by decide) ?_
                  have hY : G = (1, Pp, Tt, Yy) := by rw [← k3, show la + 1 - t = 0 by clear k3; grind]; rfl
                  exact v_zret C dX12_fitsGauges_157 (by decide) ⟨_, (by clear C ih_5 ih_46; rw [← hG, hY]; simp only [fgE]; clear k3 hY; first | (rw [if_pos (by grind)]; done) | (rw [if_neg (by grind)]; done)), (congr (congrArg Prod.mk ((kp_e (kp_add (e := Yy) (by simp (decide := true) only [wB_o, wB_i, wS_s, wS_t, wS_a, ne_eq, Nat.reduceEqDiff, not_false_eq_true, L7_1]) (kp_add (e := Tt) (by simp (decide := true) only [wB_o, wB_i, wS_s, wS_t, wS_a, ne_eq, Nat.reduceEqDiff, not_false_eq_true, L7_1]) (kp_add (e := Pp) (by simp (decide := true) only [wB_o, wB_i, wS_s, wS_t, wS_a, ne_eq, Nat.reduceEqDiff, not_false_eq_true, L7_1]) (kp_B (by decide) (kp_S (by decide) (kp_S (by decide) (kp_S (by decide) kp_r)))))))).trans (congrArg (fun c_ => wB c_ SF _) (wS_eq (wS_eq (wS_eq rfl (by clear C ih_5 ih_46; rw [← hG, hY])) (by clear C ih_5 ih_46; rw [← hG, hY])) (by clear C ih_5 ih_46; rw [← hG, hY]))))) rfl)⟩
            · refine v_aload_n C 2 dX12_fitsGauges_52 rfl ?_
              refine v_iload C 0 dX12_fitsGauges_53 rfl ?_
              refine v_vV C 12 0 [.int t] 1 (c_X12_tick E hM _ _  t  (by clear C ih_5 ih_46; (try simp (decide := true) only [wB_o, wB_i, wS_s, wS_t, wS_a, ne_eq, Nat.reduceEqDiff, not_false_eq_true, L7_1]); exact h1) (by clear C ih_5 ih_46; (try simp (decide := true) only [wB_o, wB_i, wS_s, wS_t, wS_a, ne_eq, Nat.reduceEqDiff, not_false_eq_true, L7_1]); exact h2) (by clear C ih_5 ih_46; (try simp (decide := true) only [wB_o, wB_i, wS_s, wS_t, wS_a, ne_eq, Nat.reduceEqDiff, not_false_eq_true, L7_1]); exact h3) (by clear C ih_5 ih_46; (try simp (decide := true) only [wB_o, wB_i, wS_s, wS_t, wS_a, ne_eq, Nat.reduceEqDiff, not_false_eq_true, L7_1]); exact h4) (by clear C ih_5 ih_46; (try simp (decide := true) only [wB_o, wB_i, wS_s, wS_t, wS_a, ne_eq, Nat.reduceEqDiff, not_false_eq_true, L7_1]); exact h5) (by clear C ih_5 ih_46; (try simp (decide := true) only [wB_o, wB_i, wS_s, wS_t, wS_a, ne_eq, Nat.reduceEqDiff, not_false_eq_true, L7_1]); exact h6)) m_X12_tick x_1589 x_1591 x_56 p_X12_tick rfl ⟨Nat.le_of_ble_eq_true rfl, Nat.le_of_ble_eq_true rfl⟩ (hM.2 _ (u_12 0 (by decide))) k_12 rfl (Nat.le_of_ble_eq_true rfl) dX12_fitsGauges_55 (fun u3 v3 hp3 => ?_)
              obtain ⟨uh3, hu3⟩ := hp3
              cases hu3
              refine v_w (w2 := (wB (wS (wS (wS (wB (wS (wS (wS w 52 0 Pp) 53 0 Tt) 54 0 Yy) SF U) 52 0 ((tkG ((w 1074 0 0), (w 1075 0 0), (w 1076 0 0), (w 46 0), (w 47 0), (w 48 0), (w 49 0), (w 50 0), (w 51 0)) ((w 1084 0 0), (w 1086 0 0), (w 43 0), (w 44 0), (w 45 0)) (w 1099 0 0) (w 1100 0 0) (w 1101 0 0) t (Pp, Tt, Yy)).1)) 53 0 ((tkG ((w 1074 0 0), (w 1075 0 0), (w 1076 0 0), (w 46 0), (w 47 0), (w 48 0), (w 49 0), (w 50 0), (w 51 0)) ((w 1084 0 0), (w 1086 0 0), (w 43 0), (w 44 0), (w 45 0)) (w 1099 0 0) (w 1100 0 0) (w 1101 0 0) t (Pp, Tt, Yy)).2.1)) 54 0 ((tkG ((w 1074 0 0), (w 1075 0 0), (w 1076 0 0), (w 46 0), (w 47 0), (w 48 0), (w 49 0), (w 50 0), (w 51 0)) ((w 1084 0 0), (w 1086 0 0), (w 43 0), (w 44 0), (w 45 0)) (w 1099 0 0) (w 1100 0 0) (w 1101 0 0) t (Pp, Tt, Yy)).2.2)) SF uh3)) (by simp (decide := true) only [wB_o, wB_i, wS_s, wS_t, wS_a, ne_eq, Nat.reduceEqDiff, not_false_eq_true, wS_wS, wS_p, wS_pp, Nat.reduceLT, id_eq, L7_1]) ?_
              have hL58 : ∀ (Pn : Row) (Tn : Row) (Yn : Row) (U2 : Wi), ((Pn, Tn, Yn) = tkG ((w 1074 0 0), (w 1075 0 0), (w 1076 0 0), (w 46 0), (w 47 0), (w 48 0), (w 49 0), (w 50 0), (w 51 0)) ((w 1084 0 0), (w 1086 0 0), (w 43 0), (w 44 0), (w 45 0)) (w 1099 0 0) (w 1100 0 0) (w 1101 0 0) t (Pp, Tt, Yy)) → V K E A 6 (QI K E A (P_X12_fitsGauges w z off hot)) 58 [(4, .int t), (3, .int la), (0, .ref (E.ad 12 0)), (1, .int off), (2, .int hot)] [] (wB (wS (wS (wS w 52 0 Pn) 53 0 Tn) 54 0 Yn) SF U2) z := by
                intro Pn Tn Yn U2 hinv
                have hX := hinv
                refine v_iconst (v := 0) C dX12_fitsGauges_58 (by decide) ?_
                refine v_istore (lv2 := [(5, .int 0), (4, .int t), (3, .int la), (0, .ref (E.ad 12 0)), (1, .int off), (2, .int hot)]) C dX12_fitsGauges_59 (by decide) rfl ?_
                have hL61 : ∀ (n_ : Nat) (j : Int32), (100 - j).toNatClampNeg < n_ → (0 ≤ j ∧ j ≤ (w 1119 0 0) ∧ ∀ k, k < j.toNatClampNeg → (w 60 0) k = t → (Pn 0 - (w 61 0) k ≤ off ∧ (w 61 0) k - Pn 0 ≤ off) ∧ (Pn (w 1074 0 0).toNatClampNeg - (w 62 0) k ≤ off ∧ (w 62 0) k - Pn (w 1074 0 0).toNatClampNeg ≤ off)) → V K E A 6 (QI K E A (P_X12_fitsGauges w z off hot)) 61 [(5, .int j), (4, .int t), (3, .int la), (0, .ref (E.ad 12 0)), (1, .int off), (2, .int hot)] [] (wB (wS (wS (wS w 52 0 Pn) 53 0 Tn) 54 0 Yn) SF U2) z := by
                  intro n_
                  induction n_ with
                  | zero => intro j hm_; exact absurd hm_ (Nat.not_lt_zero _)
                  | succ n_ ih_61 =>
                    intro j hm_ hinv
                    obtain ⟨n1, n2, n3⟩ := hinv
                    refine v_iload C 0 dX12_fitsGauges_61 rfl ?_
                    refine v_aload_n C 3 dX12_fitsGauges_63 rfl ?_
                    refine v_gI C 12 0 59 1119 (w 1119 0 0) (hM.2 _ (u_12 0 (by decide))) k_12 (by decide) rfl rfl x_1301 (by simp (decide := true) only [wB_o, wB_i, wS_s, wS_t, wS_a, ne_eq, Nat.reduceEqDiff, not_false_eq_true, L7_1]) dX12_fitsGauges_64 ?_
                    refine v_ic_ge C 133 dX12_fitsGauges_67 (by decide) (fun c_67 => ?_) (fun c_67 => ?_)
                    · refine v_iinc (v := t + 1) (lv2 := [(4, .int (t + 1)), (5, .int j), (3, .int la), (0, .ref (E.ad 12 0)), (1, .int off), (2, .int hot)]) C 1 dX12_fitsGauges_133 rfl rfl (by decide) rfl ?_
                      refine v_goto C 46 dX12_fitsGauges_136 (by decide) ?_
                      refine v_w (kp_e (S := SF) (w := (wS (wS (wS w 52 0 Pn) 53 0 Tn) 54 0 Yn)) (kp_add (e := Yn) (by simp (decide := true) only [wB_o, wB_i, wS_s, wS_t, wS_a, ne_eq, Nat.reduceEqDiff, not_false_eq_true, L7_1]) (kp_add (e := Tn) (by simp (decide := true) only [wB_o, wB_i, wS_s, wS_t, wS_a, ne_eq, Nat.reduceEqDiff, not_false_eq_true, L7_1]) (kp_add (e := Pn) (by simp (decide := true) only [wB_o, wB_i, wS_s, wS_t, wS_a, ne_eq, Nat.reduceEqDiff, not_false_eq_true, L7_1]) (kp_B (by decide) (kp_S (by decide) (kp_S (by decide) (kp_S (by decide) kp_r)))))))) ?_
                      refine v_l [0, 2, 3, 4, 5] rfl ?_
                      exact ih_46 (t + 1) Pn Tn Yn _ (by clear C ih_5 ih_46 ih_61; exact Nat.lt_of_lt_of_le (m_up (by clear k3; grind) (by clear k3; grind)) (Nat.le_of_lt_succ hm1)) (by clear C ih_5 ih_46 ih_61; refine ⟨by clear k3 hX n3; grind, by clear k3 hX n3; grind, ?_⟩; rw [← k3, m_dnn (i := t) (N := la + 1) (by clear k3 hX n3; grind) (by clear k3 hX n3; grind)]; simp only [fgR]; rw [← hX]; dsimp only; rw [if_neg]; simp only [nrF]; rw [if_pos (by rw [show (w 1119 0 0) = j by clear k3 hX n3; grind]; exact n3)]; decide)
                    · refine v_aload_n C 3 dX12_fitsGauges_70 rfl ?_
                      refine v_gR C 12 0 54 60 0 (hM.2 _ (u_12 0 (by decide))) k_12 (by decide) x_1296 (fun _ _ _ => rfl) dX12_fitsGauges_71 ?_
                      refine v_iload C 0 dX12_fitsGauges_74 rfl ?_
                      refine v_iald C 60 0 (hM.2 _ (u_60 0 (by decide))) ⟨by decide, rfl, rfl⟩ (by exact v_in (N := 8) (by decide) (by clear k3 hX n3; grind) (by clear k3 hX n3; grind)) dX12_fitsGauges_76 ?_
                      refine v_i (y := ((w 60 0) j.toNatClampNeg)) (by simp (decide := true) only [wB_o, wB_i, wS_s, wS_t, wS_a, ne_eq, Nat.reduceEqDiff, not_false_eq_true, L7_1]) ?_
                      refine v_iload C 1 dX12_fitsGauges_77 rfl ?_
                      refine v_ic_ne C 127 dX12_fitsGauges_79 (by decide) (fun c_79 => ?_) (fun c_79 => ?_)
                      · refine v_iinc (v := j + 1) (lv2 := [(5, .int (j + 1)), (4, .int t), (3, .int la), (0, .ref (E.ad 12 0)), (1, .int off), (2, .int hot)]) C 0 dX12_fitsGauges_127 rfl rfl (by decide) rfl ?_
                        refine v_goto C 61 dX12_fitsGauges_130 (by decide) ?_
                        exact ih_61 (j + 1) (by clear C ih_5 ih_46 ih_61; exact Nat.lt_of_lt_of_le (m_up (by clear k3 hX n3; grind) (by clear k3 hX n3; grind)) (Nat.le_of_lt_succ hm_)) (by clear C ih_5 ih_46 ih_61; refine ⟨by clear k3 hX n3; grind, by clear k3 hX n3; grind, fun k h e => ?_⟩; rw [cl_succ n1 (by clear k3 hX n3; grind)] at h; by_cases q : k = j.toNatClampNeg; (subst q; clear k3 hX n3; first | exact absurd e (by assumption) | grind); exact n3 k (by omega) e)
                      · refine v_aload_n C 3 dX12_fitsGauges_82 rfl ?_
                        refine v_gR C 12 0 34 52 0 (hM.2 _ (u_12 0 (by decide))) k_12 (by decide) x_1276 (fun _ _ _ => rfl) dX12_fitsGauges_83 ?_
                        refine v_iconst (v := 0) C dX12_fitsGauges_86 (by decide) ?_
                        refine v_iald C 52 0 (hM.2 _ (u_52 0 (by decide))) ⟨by decide, rfl, rfl⟩ (v_in (x := 0) (N := 17) (by decide) (by decide) (by decide)) dX12_fitsGauges_87 ?_
                        refine v_i (y := (Pn 0)) (by simp (decide := true) only [wB_o, wB_i, wS_s, wS_t, wS_a, ne_eq, Nat.reduceEqDiff, not_false_eq_true, L7_1]; try rfl) ?_
                        refine v_aload_n C 3 dX12_fitsGauges_88 rfl ?_
                        refine v_gR C 12 0 55 61 0 (hM.2 _ (u_12 0 (by decide))) k_12 (by decide) x_1297 (fun _ _ _ => rfl) dX12_fitsGauges_89 ?_
                        refine v_iload C 0 dX12_fitsGauges_92 rfl ?_
                        refine v_iald C 61 0 (hM.2 _ (u_61 0 (by decide))) ⟨by decide, rfl, rfl⟩ (by exact v_in (N := 8) (by decide) (by clear k3 hX n3; grind) (by clear k3 hX n3; grind)) dX12_fitsGauges_94 ?_
                        refine v_i (y := ((w 61 0) j.toNatClampNeg)) (by simp (decide := true) only [wB_o, wB_i, wS_s, wS_t, wS_a, ne_eq, Nat.reduceEqDiff, not_false_eq_true, L7_1]) ?_
                        refine v_iload_n C 4 dX12_fitsGauges_95 rfl ?_
                        refine v_sI C [.int (Pn 0), .int ((w 61 0) j.toNatClampNeg), .int off] 3 (c_X12_isNear E hM _ _  (Pn 0) ((w 61 0) j.toNatClampNeg) off  ) m_X12_isNear x_1685 x_1686 p_X12_isNear rfl ⟨Nat.le_of_ble_eq_true rfl, Nat.le_of_ble_eq_true rfl⟩ rfl (Nat.le_of_ble_eq_true rfl) dX12_fitsGauges_96 (fun r4 u4 v4 hp4 => ?_)
                        obtain ⟨hr4, hu4⟩ := hp4
                        subst hr4
                        cases hu4
                        refine v_if_eq C 125 dX12_fitsGauges_99 (by decide) (fun c_99 => ?_) (fun c_99 => ?_)
                        · refine v_iconst (v := 0) C dX12_fitsGauges_125 (by decide) ?_
                          have hY : G = (0, Pn, Tn, Yn) := by rw [← k3, m_dnn (i := t) (N := la + 1) (by clear k3 hX n3; grind) (by clear k3 hX n3; grind)]; simp only [fgR]; rw [← hX]; dsimp only; rw [if_pos]; simp only [nrF]; rw [if_neg]; intro q; have q2 := q _ ((cl_lt n1 h7).mpr (by clear k3 hX n3 q; grind)) (by assumption); clear k3 hX n3 q; grind
                          exact v_zret C dX12_fitsGauges_126 (by decide) ⟨_, (by clear C ih_5 ih_46 ih_61; rw [← hG, hY]; rfl), (congr (congrArg Prod.mk ((kp_e (kp_add (e := Yn) (by simp (decide := true) only [wB_o, wB_i, wS_s, wS_t, wS_a, ne_eq, Nat.reduceEqDiff, not_false_eq_true, L7_1]) (kp_add (e := Tn) (by simp (decide := true) only [wB_o, wB_i, wS_s, wS_t, wS_a, ne_eq, Nat.reduceEqDiff, not_false_eq_true, L7_1]) (kp_add (e := Pn) (by simp (decide := true) only [wB_o, wB_i, wS_s, wS_t, wS_a, ne_eq, Nat.reduceEqDiff, not_false_eq_true, L7_1]) (kp_B (by decide) (kp_S (by decide) (kp_S (by decide) (kp_S (by decide) kp_r)))))))).trans (congrArg (fun c_ => wB c_ SF _) (wS_eq (wS_eq (wS_eq rfl (by clear C ih_5 ih_46 ih_61; rw [← hG, hY])) (by clear C ih_5 ih_46 ih_61; rw [← hG, hY])) (by clear C ih_5 ih_46 ih_61; rw [← hG, hY]))))) rfl)⟩
                        · refine v_aload_n C 3 dX12_fitsGauges_102 rfl ?_
                          refine v_gR C 12 0 34 52 0 (hM.2 _ (u_12 0 (by decide))) k_12 (by decide) x_1276 (fun _ _ _ => rfl) dX12_fitsGauges_103 ?_
                          refine v_aload_n C 3 dX12_fitsGauges_106 rfl ?_
                          refine v_gI C 12 0 14 1074 (w 1074 0 0) (hM.2 _ (u_12 0 (by decide))) k_12 (by decide) rfl rfl x_1256 (by simp (decide := true) only [wB_o, wB_i, wS_s, wS_t, wS_a, ne_eq, Nat.reduceEqDiff, not_false_eq_true, L7_1]) dX12_fitsGauges_107 ?_
                          refine v_iald C 52 0 (hM.2 _ (u_52 0 (by decide))) ⟨by decide, rfl, rfl⟩ (by exact v_in (N := 17) (by decide) (by clear k3 hX n3; grind) (by clear k3 hX n3; grind)) dX12_fitsGauges_110 ?_
                          refine v_i (y := (Pn (w 1074 0 0).toNatClampNeg)) (by simp (decide := true) only [wB_o, wB_i, wS_s, wS_t, wS_a, ne_eq, Nat.reduceEqDiff, not_false_eq_true, L7_1]) ?_
                          refine v_aload_n C 3 dX12_fitsGauges_111 rfl ?_
                          refine v_gR C 12 0 56 62 0 (hM.2 _ (u_12 0 (by decide))) k_12 (by decide) x_1298 (fun _ _ _ => rfl) dX12_fitsGauges_112 ?_
                          refine v_iload C 0 dX12_fitsGauges_115 rfl ?_
                          refine v_iald C 62 0 (hM.2 _ (u_62 0 (by decide))) ⟨by decide, rfl, rfl⟩ (by exact v_in (N := 8) (by decide) (by clear k3 hX n3; grind) (by clear k3 hX n3; grind)) dX12_fitsGauges_117 ?_
                          refine v_i (y := ((w 62 0) j.toNatClampNeg)) (by simp (decide := true) only [wB_o, wB_i, wS_s, wS_t, wS_a, ne_eq, Nat.reduceEqDiff, not_false_eq_true, L7_1]) ?_
                          refine v_iload_n C 4 dX12_fitsGauges_118 rfl ?_
                          refine v_sI C [.int (Pn (w 1074 0 0).toNatClampNeg), .int ((w 62 0) j.toNatClampNeg), .int off] 3 (c_X12_isNear E hM _ _  (Pn (w 1074 0 0).toNatClampNeg) ((w 62 0) j.toNatClampNeg) off  ) m_X12_isNear x_1685 x_1686 p_X12_isNear rfl ⟨Nat.le_of_ble_eq_true rfl, Nat.le_of_ble_eq_true rfl⟩ rfl (Nat.le_of_ble_eq_true rfl) dX12_fitsGauges_119 (fun r5 u5 v5 hp5 => ?_)
                          obtain ⟨hr5, hu5⟩ := hp5
                          subst hr5
                          cases hu5
                          refine v_if_ne C 127 dX12_fitsGauges_122 (by decide) (fun c_122 => ?_) (fun c_122 => ?_)
                          · refine v_iinc (v := j + 1) (lv2 := [(5, .int (j + 1)), (4, .int t), (3, .int la), (0, .ref (E.ad 12 0)), (1, .int off), (2, .int hot)]) C 0 dX12_fitsGauges_127 rfl rfl (by decide) rfl ?_
                            refine v_goto C 61 dX12_fitsGauges_130 (by decide) ?_
                            exact ih_61 (j + 1) (by clear C ih_5 ih_46 ih_61; exact Nat.lt_of_lt_of_le (m_up (by clear k3 hX n3; grind) (by clear k3 hX n3; grind)) (Nat.le_of_lt_succ hm_)) (by clear C ih_5 ih_46 ih_61; refine ⟨by clear k3 hX n3; grind, by clear k3 hX n3; grind, fun k h e => ?_⟩; rw [cl_succ n1 (by clear k3 hX n3; grind)] at h; by_cases q : k = j.toNatClampNeg; (subst q; clear k3 hX n3; first | exact absurd e (by assumption) | grind); exact n3 k (by omega) e)
                          · refine v_iconst (v := 0) C dX12_fitsGauges_125 (by decide) ?_
                            have hY : G = (0, Pn, Tn, Yn) := by rw [← k3, m_dnn (i := t) (N := la + 1) (by clear k3 hX n3; grind) (by clear k3 hX n3; grind)]; simp only [fgR]; rw [← hX]; dsimp only; rw [if_pos]; simp only [nrF]; rw [if_neg]; intro q; have q2 := q _ ((cl_lt n1 h7).mpr (by clear k3 hX n3 q; grind)) (by assumption); clear k3 hX n3 q; grind
                            exact v_zret C dX12_fitsGauges_126 (by decide) ⟨_, (by clear C ih_5 ih_46 ih_61; rw [← hG, hY]; rfl), (congr (congrArg Prod.mk ((kp_e (kp_add (e := Yn) (by simp (decide := true) only [wB_o, wB_i, wS_s, wS_t, wS_a, ne_eq, Nat.reduceEqDiff, not_false_eq_true, L7_1]) (kp_add (e := Tn) (by simp (decide := true) only [wB_o, wB_i, wS_s, wS_t, wS_a, ne_eq, Nat.reduceEqDiff, not_false_eq_true, L7_1]) (kp_add (e := Pn) (by simp (decide := true) only [wB_o, wB_i, wS_s, wS_t, wS_a, ne_eq, Nat.reduceEqDiff, not_false_eq_true, L7_1]) (kp_B (by decide) (kp_S (by decide) (kp_S (by decide) (kp_S (by decide) kp_r)))))))).trans (congrArg (fun c_ => wB c_ SF _) (wS_eq (wS_eq (wS_eq rfl (by clear C ih_5 ih_46 ih_61; rw [← hG, hY])) (by clear C ih_5 ih_46 ih_61; rw [← hG, hY])) (by clear C ih_5 ih_46 ih_61; rw [← hG, hY]))))) rfl)⟩
                exact hL61 _ 0 (Nat.lt_succ_self _) (by clear C ih_5 ih_46 hL61; exact ⟨by decide, h7, fun k h => absurd h (Nat.not_lt_zero _)⟩)
              refine v_w (kp_e (S := SF) (w := (wS (wS (wS w 52 0 ((tkG ((w 1074 0 0), (w 1075 0 0), (w 1076 0 0), (w 46 0), (w 47 0), (w 48 0), (w 49 0), (w 50 0), (w 51 0)) ((w 1084 0 0), (w 1086 0 0), (w 43 0), (w 44 0), (w 45 0)) (w 1099 0 0) (w 1100 0 0) (w 1101 0 0) t (Pp, Tt, Yy)).1)) 53 0 ((tkG ((w 1074 0 0), (w 1075 0 0), (w 1076 0 0), (w 46 0), (w 47 0), (w 48 0), (w 49 0), (w 50 0), (w 51 0)) ((w 1084 0 0), (w 1086 0 0), (w 43 0), (w 44 0), (w 45 0)) (w 1099 0 0) (w 1100 0 0) (w 1101 0 0) t (Pp, Tt, Yy)).2.1)) 54 0 ((tkG ((w 1074 0 0), (w 1075 0 0), (w 1076 0 0), (w 46 0), (w 47 0), (w 48 0), (w 49 0), (w 50 0), (w 51 0)) ((w 1084 0 0), (w 1086 0 0), (w 43 0), (w 44 0), (w 45 0)) (w 1099 0 0) (w 1100 0 0) (w 1101 0 0) t (Pp, Tt, Yy)).2.2))) (kp_add (e := ((tkG ((w 1074 0 0), (w 1075 0 0), (w 1076 0 0), (w 46 0), (w 47 0), (w 48 0), (w 49 0), (w 50 0), (w 51 0)) ((w 1084 0 0), (w 1086 0 0), (w 43 0), (w 44 0), (w 45 0)) (w 1099 0 0) (w 1100 0 0) (w 1101 0 0) t (Pp, Tt, Yy)).2.2)) (by simp (decide := true) only [wB_o, wB_i, wS_s, wS_t, wS_a, ne_eq, Nat.reduceEqDiff, not_false_eq_true, L7_1]) (kp_add (e := ((tkG ((w 1074 0 0), (w 1075 0 0), (w 1076 0 0), (w 46 0), (w 47 0), (w 48 0), (w 49 0), (w 50 0), (w 51 0)) ((w 1084 0 0), (w 1086 0 0), (w 43 0), (w 44 0), (w 45 0)) (w 1099 0 0) (w 1100 0 0) (w 1101 0 0) t (Pp, Tt, Yy)).2.1)) (by simp (decide := true) only [wB_o, wB_i, wS_s, wS_t, wS_a, ne_eq, Nat.reduceEqDiff, not_false_eq_true, L7_1]) (kp_add (e := ((tkG ((w 1074 0 0), (w 1075 0 0), (w 1076 0 0), (w 46 0), (w 47 0), (w 48 0), (w 49 0), (w 50 0), (w 51 0)) ((w 1084 0 0), (w 1086 0 0), (w 43 0), (w 44 0), (w 45 0)) (w 1099 0 0) (w 1100 0 0) (w 1101 0 0) t (Pp, Tt, Yy)).1)) (by simp (decide := true) only [wB_o, wB_i, wS_s, wS_t, wS_a, ne_eq, Nat.reduceEqDiff, not_false_eq_true, L7_1]) (kp_B (by decide) (kp_S (by decide) (kp_S (by decide) (kp_S (by decide) (kp_B (by decide) (kp_S (by decide) (kp_S (by decide) (kp_S (by decide) kp_r)))))))))))) ?_
              exact hL58 ((tkG ((w 1074 0 0), (w 1075 0 0), (w 1076 0 0), (w 46 0), (w 47 0), (w 48 0), (w 49 0), (w 50 0), (w 51 0)) ((w 1084 0 0), (w 1086 0 0), (w 43 0), (w 44 0), (w 45 0)) (w 1099 0 0) (w 1100 0 0) (w 1101 0 0) t (Pp, Tt, Yy)).1) ((tkG ((w 1074 0 0), (w 1075 0 0), (w 1076 0 0), (w 46 0), (w 47 0), (w 48 0), (w 49 0), (w 50 0), (w 51 0)) ((w 1084 0 0), (w 1086 0 0), (w 43 0), (w 44 0), (w 45 0)) (w 1099 0 0) (w 1100 0 0) (w 1101 0 0) t (Pp, Tt, Yy)).2.1) ((tkG ((w 1074 0 0), (w 1075 0 0), (w 1076 0 0), (w 46 0), (w 47 0), (w 48 0), (w 49 0), (w 50 0), (w 51 0)) ((w 1084 0 0), (w 1086 0 0), (w 43 0), (w 44 0), (w 45 0)) (w 1099 0 0) (w 1100 0 0) (w 1101 0 0) t (Pp, Tt, Yy)).2.2) _ (by clear C ih_5 ih_46 hL58; rfl)
        refine v_w (kp_e (S := SF) (w := (wS (wS (wS w 52 0 (fillR (w 52 0) (w 1075 0 0) ((w 1074 0 0) + 1).toNatClampNeg)) 53 0 (fillR (w 53 0) (w 1075 0 0) ((w 1074 0 0) + 1).toNatClampNeg)) 54 0 (fillR (w 54 0) 0 ((w 1074 0 0) + 1).toNatClampNeg))) (kp_add (e := (fillR (w 54 0) 0 ((w 1074 0 0) + 1).toNatClampNeg)) (by simp only [wS_s, wS_t, wS_a, ne_eq, Nat.reduceEqDiff, not_false_eq_true, L7_1]) (kp_add (e := (fillR (w 53 0) (w 1075 0 0) ((w 1074 0 0) + 1).toNatClampNeg)) (by simp only [wS_s, wS_t, wS_a, ne_eq, Nat.reduceEqDiff, not_false_eq_true, L7_1]) (kp_add (e := (fillR (w 52 0) (w 1075 0 0) ((w 1074 0 0) + 1).toNatClampNeg)) (by simp only [wS_s, wS_t, wS_a, ne_eq, Nat.reduceEqDiff, not_false_eq_true, L7_1]) (kp_S (by decide) (kp_S (by decide) (kp_S (by decide) kp_r))))))) ?_
        exact hL46 _ 1 (fillR (w 52 0) (w 1075 0 0) ((w 1074 0 0) + 1).toNatClampNeg) (fillR (w 53 0) (w 1075 0 0) ((w 1074 0 0) + 1).toNatClampNeg) (fillR (w 54 0) 0 ((w 1074 0 0) + 1).toNatClampNeg) _ (Nat.lt_succ_self _) (by clear C ih_5 hL46; refine ⟨by decide, by clear el; grind, ?_⟩; rw [hG, show la + 1 - 1 = la by grind, ← el]; rfl)
      refine v_iload C 0 dX12_fitsGauges_5 rfl ?_
      refine v_aload_n C 2 dX12_fitsGauges_7 rfl ?_
      refine v_gI C 12 0 59 1119 (w 1119 0 0) (hM.2 _ (u_12 0 (by decide))) k_12 (by decide) rfl rfl x_1301 rfl dX12_fitsGauges_8 ?_
      refine v_ic_ge C 39 dX12_fitsGauges_11 (by decide) (fun c_11 => ?_) (fun c_11 => ?_)
      · refine v_l [1, 2, 3, 4] rfl ?_
        exact hL39  (by clear C ih_5 hL39; rw [show (w 1119 0 0) = i by clear g3 h9 m0; grind]; exact g3)
      · refine v_aload_n C 2 dX12_fitsGauges_14 rfl ?_
        refine v_gR C 12 0 54 60 0 (hM.2 _ (u_12 0 (by decide))) k_12 (by decide) x_1296 (fun _ _ _ => rfl) dX12_fitsGauges_15 ?_
        refine v_iload C 0 dX12_fitsGauges_18 rfl ?_
        refine v_iald C 60 0 (hM.2 _ (u_60 0 (by decide))) ⟨by decide, rfl, rfl⟩ (by exact v_in (N := 8) (by decide) (by clear g3 h9 m0; grind) (by clear g3 h9 m0; grind)) dX12_fitsGauges_20 ?_
        refine v_iload_n C 1 dX12_fitsGauges_21 rfl ?_
        refine v_ic_le C 33 dX12_fitsGauges_22 (by decide) (fun c_22 => ?_) (fun c_22 => ?_)
        · refine v_iinc (v := i + 1) (lv2 := [(4, .int (i + 1)), (3, .int la), (0, .ref (E.ad 12 0)), (1, .int off), (2, .int hot)]) C 0 dX12_fitsGauges_33 rfl rfl (by decide) rfl ?_
          refine v_goto C 5 dX12_fitsGauges_36 (by decide) ?_
          exact ih_5 la (i + 1) (by clear C ih_5 hL39; exact Nat.lt_of_lt_of_le (m_up (by clear g3 h9 m0; grind) (by clear g3 h9 m0; grind)) (Nat.le_of_lt_succ hm_)) (by clear C ih_5 hL39; refine ⟨by clear g3 h9 m0; grind, by clear g3 h9 m0; grind, ?_⟩; rw [cl_succ g1 (by clear g3 h9 m0; grind)]; simp only [mxR]; rw [← g3]; clear g3 h9 m0; grind)
        · refine v_aload_n C 2 dX12_fitsGauges_25 rfl ?_
          refine v_gR C 12 0 54 60 0 (hM.2 _ (u_12 0 (by decide))) k_12 (by decide) x_1296 (fun _ _ _ => rfl) dX12_fitsGauges_26 ?_
          refine v_iload C 0 dX12_fitsGauges_29 rfl ?_
          refine v_iald C 60 0 (hM.2 _ (u_60 0 (by decide))) ⟨by decide, rfl, rfl⟩ (by exact v_in (N := 8) (by decide) (by clear g3 h9 m0; grind) (by clear g3 h9 m0; grind)) dX12_fitsGauges_31 ?_
          refine v_istore_n (lv2 := [(3, .int ((w 60 0) i.toNatClampNeg)), (4, .int i), (0, .ref (E.ad 12 0)), (1, .int off), (2, .int hot)]) C dX12_fitsGauges_32 rfl (by decide) rfl ?_
          refine v_iinc (v := i + 1) (lv2 := [(4, .int (i + 1)), (3, .int ((w 60 0) i.toNatClampNeg)), (0, .ref (E.ad 12 0)), (1, .int off), (2, .int hot)]) C 1 dX12_fitsGauges_33 rfl rfl (by decide) rfl ?_
          refine v_goto C 5 dX12_fitsGauges_36 (by decide) ?_
          exact ih_5 ((w 60 0) i.toNatClampNeg) (i + 1) (by clear C ih_5 hL39; exact Nat.lt_of_lt_of_le (m_up (by clear g3 h9 m0; grind) (by clear g3 h9 m0; grind)) (Nat.le_of_lt_succ hm_)) (by clear C ih_5 hL39; refine ⟨by clear g3 h9 m0; grind, by clear g3 h9 m0; grind, ?_⟩; rw [cl_succ g1 (by clear g3 h9 m0; grind)]; simp only [mxR]; rw [← g3]; clear g3 h9 m0; grind)
  exact hL5 _ 0 0 (Nat.lt_succ_self _) (by clear C hL5; exact ⟨by decide, h7, rfl⟩)
