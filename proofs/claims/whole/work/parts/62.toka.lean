abbrev P_X8_refuse (w : Wi) (z : Wj) (why : Int32) : Int32 → WW → Prop := fun r_ u_ => r_ = (0) ∧ u_ = ((wS (wS w 746 0 (fun _ => why)) 747 0 (fun _ => (w 743 0 0))), z)
set_option maxHeartbeats 4000000 in
set_option maxRecDepth 100000 in
theorem c_X8_refuse (E : En) (hE : q_ok E) (w : Wi) (z : Wj) (why : Int32) : CtI M_X8_refuse E [.ref (E.ad 8 0), .int why] w z (P_X8_refuse w z why) := by
  refine ctI_of (lv := [(0, .ref (E.ad 8 0)), (1, .int why)]) hE m_X8_refuse (Nat.le_of_ble_eq_true rfl) rfl ?_
  intro K A C0
  have C : Cx K E A cX8_refuse 2 RX8 (some .boolean) { frames := 0, cells := 0, slots := 0, locals := 0 } := C0
  clear C0
  refine v_aload_n C 0 dX8_refuse_0 rfl ?_
  refine v_iload_n C 1 dX8_refuse_1 rfl ?_
  refine v_pI C 8 0 6 746 (C_m C (u_8 0 (by decide))) k_8 ty_8 (by decide) rfl ⟨rfl, rfl⟩ x_135 rfl rfl dX8_refuse_2 ?_
  refine v_aload_n C 0 dX8_refuse_5 rfl ?_
  refine v_aload_n C 0 dX8_refuse_6 rfl ?_
  refine v_gI C 8 0 3 743 (w 743 0 0) (C_m C (u_8 0 (by decide))) k_8 (by decide) rfl rfl x_132 (by simp only [wS_s, wS_t, wS_a, ne_eq, Nat.reduceEqDiff, not_false_eq_true]) dX8_refuse_7 ?_
  refine v_pI C 8 0 7 747 (C_m C (u_8 0 (by decide))) k_8 ty_8 (by decide) rfl ⟨rfl, rfl⟩ x_137 rfl rfl dX8_refuse_10 ?_
  refine v_iconst (v := 0) C dX8_refuse_13 (by decide) ?_
  exact v_zret C dX8_refuse_14 (by decide) ⟨rfl, (congr (congrArg Prod.mk rfl) rfl)⟩
abbrev P_X8_atEnd (w : Wi) (z : Wj) : Int32 → WW → Prop := fun r_ u_ => r_ = (if (w 742 0 0) = 0 then 1 else 0) ∧ u_ = (w, z)
set_option maxHeartbeats 4000000 in
set_option maxRecDepth 100000 in
theorem c_X8_atEnd (E : En) (hE : q_ok E) (w : Wi) (z : Wj) : CtI M_X8_atEnd E [.ref (E.ad 8 0)] w z (P_X8_atEnd w z) := by
  refine ctI_of (lv := [(0, .ref (E.ad 8 0))]) hE m_X8_atEnd (Nat.le_of_ble_eq_true rfl) rfl ?_
  intro K A C0
  have C : Cx K E A cX8_atEnd 1 RX8 (some .boolean) { frames := 0, cells := 0, slots := 0, locals := 0 } := C0
  clear C0
  refine v_aload_n C 0 dX8_atEnd_0 rfl ?_
  refine v_gI C 8 0 2 742 (w 742 0 0) (C_m C (u_8 0 (by decide))) k_8 (by decide) rfl rfl x_131 rfl dX8_atEnd_1 ?_
  refine v_if_ne C 11 dX8_atEnd_4 (by decide) (fun c_4 => ?_) (fun c_4 => ?_)
  · refine v_iconst (v := 0) C dX8_atEnd_11 (by decide) ?_
    exact v_zret C dX8_atEnd_12 (by decide) ⟨(by clear C; grind), (congr (congrArg Prod.mk rfl) rfl)⟩
  · refine v_iconst (v := 1) C dX8_atEnd_7 (by decide) ?_
    refine v_goto C 12 dX8_atEnd_8 (by decide) ?_
    exact v_zret C dX8_atEnd_12 (by decide) ⟨(by clear C; grind), (congr (congrArg Prod.mk rfl) rfl)⟩
abbrev P_X8_tooLong (w : Wi) (z : Wj) : Int32 → WW → Prop := fun r_ u_ => r_ = (if (w 741 0 0) < (w 661 0 0) then 1 else 0) ∧ u_ = (w, z)
set_option maxHeartbeats 4000000 in
set_option maxRecDepth 100000 in
theorem c_X8_tooLong (E : En) (hE : q_ok E) (w : Wi) (z : Wj) : CtI M_X8_tooLong E [.ref (E.ad 8 0)] w z (P_X8_tooLong w z) := by
  refine ctI_of (lv := [(0, .ref (E.ad 8 0))]) hE m_X8_tooLong (Nat.le_of_ble_eq_true rfl) rfl ?_
  intro K A C0
  have C : Cx K E A cX8_tooLong 1 RX8 (some .boolean) { frames := 0, cells := 0, slots := 0, locals := 0 } := C0
  clear C0
  refine v_aload_n C 0 dX8_tooLong_0 rfl ?_
  refine v_gR C 8 0 0 7 0 (C_m C (u_8 0 (by decide))) k_8 (by decide) x_129 (fun _ _ _ => rfl) dX8_tooLong_1 ?_
  refine v_gI C 7 0 1 661 (w 661 0 0) (C_m C (u_7 0 (by decide))) k_7 (by decide) rfl rfl x_115 rfl dX8_tooLong_4 ?_
  refine v_aload_n C 0 dX8_tooLong_7 rfl ?_
  refine v_gI C 8 0 1 741 (w 741 0 0) (C_m C (u_8 0 (by decide))) k_8 (by decide) rfl rfl x_130 rfl dX8_tooLong_8 ?_
  refine v_ic_le C 18 dX8_tooLong_11 (by decide) (fun c_11 => ?_) (fun c_11 => ?_)
  · refine v_iconst (v := 0) C dX8_tooLong_18 (by decide) ?_
    exact v_zret C dX8_tooLong_19 (by decide) ⟨(by clear C; grind), (congr (congrArg Prod.mk rfl) rfl)⟩
  · refine v_iconst (v := 1) C dX8_tooLong_14 (by decide) ?_
    refine v_goto C 19 dX8_tooLong_15 (by decide) ?_
    exact v_zret C dX8_tooLong_19 (by decide) ⟨(by clear C; grind), (congr (congrArg Prod.mk rfl) rfl)⟩
abbrev P_X8_readSigns (w : Wi) (z : Wj) : WW → Prop := fun u_ => u_ = ((wS (wS (wS w 742 0 (fun _ => fmF (sgR (w 37 0) (((w 661 0 0)).toNatClampNeg - ((w 743 0 0)).toNatClampNeg) ((w 743 0 0)).toNatClampNeg 0 0 0).2.1 (sgR (w 37 0) (((w 661 0 0)).toNatClampNeg - ((w 743 0 0)).toNatClampNeg) ((w 743 0 0)).toNatClampNeg 0 0 0).2.2.1)) 744 0 (fun _ => nI (sgR (w 37 0) (((w 661 0 0)).toNatClampNeg - ((w 743 0 0)).toNatClampNeg) ((w 743 0 0)).toNatClampNeg 0 0 0).1)) 745 0 (fun _ => (sgR (w 37 0) (((w 661 0 0)).toNatClampNeg - ((w 743 0 0)).toNatClampNeg) ((w 743 0 0)).toNatClampNeg 0 0 0).2.2.2)), z)
set_option maxHeartbeats 4000000 in
set_option maxRecDepth 100000 in
theorem c_X8_readSigns (E : En) (hE : q_ok E) (w : Wi) (z : Wj) (h1 : 0 ≤ (w 743 0 0)) (h2 : (w 743 0 0) ≤ (w 661 0 0)) (h3 : (w 661 0 0) ≤ 740) : CtV M_X8_readSigns E [.ref (E.ad 8 0)] w z (P_X8_readSigns w z) := by
  refine ctV_of (lv := [(0, .ref (E.ad 8 0))]) hE m_X8_readSigns (Nat.le_of_ble_eq_true rfl) rfl ?_
  intro K A C0
  have C : Cx K E A cX8_readSigns 4 RX8 none { frames := 1, cells := 0, slots := 0, locals := 21 } := C0
  clear C0
  obtain ⟨G, hG⟩ : ∃ G : Nat × Int32 × Int32 × Int32, G = (sgR (w 37 0) (((w 661 0 0)).toNatClampNeg - ((w 743 0 0)).toNatClampNeg) ((w 743 0 0)).toNatClampNeg 0 0 0) := ⟨_, rfl⟩
  have h0 : 0 ≤ (w 661 0 0) := by grind
  refine v_iconst (v := 0) C dX8_readSigns_0 (by decide) ?_
  refine v_istore_n (lv2 := [(1, .int 0), (0, .ref (E.ad 8 0))]) C dX8_readSigns_1 rfl (by decide) rfl ?_
  refine v_iconst (v := 0) C dX8_readSigns_2 (by decide) ?_
  refine v_istore_n (lv2 := [(2, .int 0), (1, .int 0), (0, .ref (E.ad 8 0))]) C dX8_readSigns_3 rfl (by decide) rfl ?_
  refine v_aload_n C 2 dX8_readSigns_4 rfl ?_
  refine v_iconst (v := 0) C dX8_readSigns_5 (by decide) ?_
  refine v_pI C 8 0 5 745 (C_m C (u_8 0 (by decide))) k_8 ty_8 (by decide) rfl ⟨rfl, rfl⟩ x_134 rfl rfl dX8_readSigns_6 ?_
  refine v_aload_n C 2 dX8_readSigns_9 rfl ?_
  refine v_iconst (v := 0) C dX8_readSigns_10 (by decide) ?_
  refine v_aload_n C 2 dX8_readSigns_11 rfl ?_
  refine v_gI C 8 0 3 743 (w 743 0 0) (C_m C (u_8 0 (by decide))) k_8 (by decide) rfl rfl x_132 (by simp only [wS_s, wS_t, wS_a, ne_eq, Nat.reduceEqDiff, not_false_eq_true]) dX8_readSigns_12 ?_
  refine v_mmax C x_591 x_592 x_85 x_593 ⟨by decide, Nat.le_of_ble_eq_true rfl⟩ dX8_readSigns_15 ?_
  refine v_pI C 8 0 4 744 (C_m C (u_8 0 (by decide))) k_8 ty_8 (by decide) rfl ⟨rfl, rfl⟩ x_133 rfl rfl dX8_readSigns_18 ?_
  have hL21 : ∀ (n_ : Nat) (l : Int32) (dg : Int32) (p : Int32) (v : Int32), (1000 - p).toNatClampNeg < n_ → (0 ≤ p ∧ p ≤ (w 661 0 0) ∧ sgR (w 37 0) ((w 661 0 0).toNatClampNeg - p.toNatClampNeg) p.toNatClampNeg l dg v = G) → V K E A 4 (QV K E A (P_X8_readSigns w z)) 21 [(2, .int dg), (1, .int l), (0, .ref (E.ad 8 0))] [] (wS (wS w 744 0 (fun _ => p)) 745 0 (fun _ => v)) z := by
    intro n_
    induction n_ with
    | zero => intro l dg p v hm_; exact absurd hm_ (Nat.not_lt_zero _)
    | succ n_ ih_21 =>
      intro l dg p v hm_ hinv
      obtain ⟨g1, g2, g3⟩ := hinv
      have g4 : p < (w 661 0 0) → (w 661 0 0).toNatClampNeg - p.toNatClampNeg = (w 661 0 0).toNatClampNeg - (p.toNatClampNeg + 1) + 1 := fun q => by have := (cl_lt g1 h0).mpr q; omega
      have hL120 : (G = (p.toNatClampNeg, l, dg, v)) → V K E A 4 (QV K E A (P_X8_readSigns w z)) 120 [(2, .int dg), (1, .int l), (0, .ref (E.ad 8 0))] [] (wS (wS w 744 0 (fun _ => p)) 745 0 (fun _ => v)) z := by
        intro  hinv
        have hX := hinv
        refine v_iload_n C 0 dX8_readSigns_120 rfl ?_
        refine v_if_ne C 142 dX8_readSigns_121 (by decide) (fun c_121 => ?_) (fun c_121 => ?_)
        · refine v_iload_n C 1 dX8_readSigns_142 rfl ?_
          refine v_if_ne C 164 dX8_readSigns_143 (by decide) (fun c_143 => ?_) (fun c_143 => ?_)
          · refine v_aload_n C 2 dX8_readSigns_164 rfl ?_
            refine v_iconst (v := 4) C dX8_readSigns_165 (by decide) ?_
            refine v_pI C 8 0 2 742 (C_m C (u_8 0 (by decide))) k_8 ty_8 (by decide) rfl ⟨rfl, rfl⟩ x_131 rfl rfl dX8_readSigns_166 ?_
            refine v_w (w2 := (wS (wS (wS w 742 0 (fun _ => 4)) 744 0 (fun _ => p)) 745 0 (fun _ => v))) (by simp only [wS_s, wS_t, wS_a, ne_eq, Nat.reduceEqDiff, not_false_eq_true, wS_wS, wS_p, wS_pp, Nat.reduceLT, id_eq]) ?_
            exact v_vret C dX8_readSigns_169 (congr (congrArg Prod.mk (wS_eq (wS_eq (wS_eq rfl (fu_eq (by clear C ih_21; rw [← hG, hX]; first | done | exact (nI_cl g1).symm | (simp only [fmF]; first | rw [if_pos (by clear g3 hX; grind)] | rw [if_neg (by clear g3 hX; grind), if_pos (by clear g3 hX; grind)] | rw [if_neg (by clear g3 hX; grind), if_neg (by clear g3 hX; grind)]); all_goals (exfalso; clear g3 hX; grind)))) (fu_eq (by clear C ih_21; rw [← hG, hX]; first | done | exact (nI_cl g1).symm | (simp only [fmF]; first | rw [if_pos (by clear g3 hX; grind)] | rw [if_neg (by clear g3 hX; grind), if_pos (by clear g3 hX; grind)] | rw [if_neg (by clear g3 hX; grind), if_neg (by clear g3 hX; grind)]); all_goals (exfalso; clear g3 hX; grind)))) (fu_eq (by clear C ih_21; rw [← hG, hX]; first | done | exact (nI_cl g1).symm | (simp only [fmF]; first | rw [if_pos (by clear g3 hX; grind)] | rw [if_neg (by clear g3 hX; grind), if_pos (by clear g3 hX; grind)] | rw [if_neg (by clear g3 hX; grind), if_neg (by clear g3 hX; grind)]); all_goals (exfalso; clear g3 hX; grind))))) rfl)
          · refine v_iload_n C 0 dX8_readSigns_146 rfl ?_
            refine v_iconst (v := 1) C dX8_readSigns_147 (by decide) ?_
            refine v_ic_lt C 164 dX8_readSigns_148 (by decide) (fun c_148 => ?_) (fun c_148 => ?_)
            · refine v_aload_n C 2 dX8_readSigns_164 rfl ?_
              refine v_iconst (v := 4) C dX8_readSigns_165 (by decide) ?_
              refine v_pI C 8 0 2 742 (C_m C (u_8 0 (by decide))) k_8 ty_8 (by decide) rfl ⟨rfl, rfl⟩ x_131 rfl rfl dX8_readSigns_166 ?_
              refine v_w (w2 := (wS (wS (wS w 742 0 (fun _ => 4)) 744 0 (fun _ => p)) 745 0 (fun _ => v))) (by simp only [wS_s, wS_t, wS_a, ne_eq, Nat.reduceEqDiff, not_false_eq_true, wS_wS, wS_p, wS_pp, Nat.reduceLT, id_eq]) ?_
              exact v_vret C dX8_readSigns_169 (congr (congrArg Prod.mk (wS_eq (wS_eq (wS_eq rfl (fu_eq (by clear C ih_21; rw [← hG, hX]; first | done | exact (nI_cl g1).symm | (simp only [fmF]; first | rw [if_pos (by clear g3 hX; grind)] | rw [if_neg (by clear g3 hX; grind), if_pos (by clear g3 hX; grind)] | rw [if_neg (by clear g3 hX; grind), if_neg (by clear g3 hX; grind)]); all_goals (exfalso; clear g3 hX; grind)))) (fu_eq (by clear C ih_21; rw [← hG, hX]; first | done | exact (nI_cl g1).symm | (simp only [fmF]; first | rw [if_pos (by clear g3 hX; grind)] | rw [if_neg (by clear g3 hX; grind), if_pos (by clear g3 hX; grind)] | rw [if_neg (by clear g3 hX; grind), if_neg (by clear g3 hX; grind)]); all_goals (exfalso; clear g3 hX; grind)))) (fu_eq (by clear C ih_21; rw [← hG, hX]; first | done | exact (nI_cl g1).symm | (simp only [fmF]; first | rw [if_pos (by clear g3 hX; grind)] | rw [if_neg (by clear g3 hX; grind), if_pos (by clear g3 hX; grind)] | rw [if_neg (by clear g3 hX; grind), if_neg (by clear g3 hX; grind)]); all_goals (exfalso; clear g3 hX; grind))))) rfl)
            · refine v_iload_n C 0 dX8_readSigns_151 rfl ?_
              refine v_iconst (v := 3) C dX8_readSigns_152 (by decide) ?_
              refine v_ic_gt C 164 dX8_readSigns_153 (by decide) (fun c_153 => ?_) (fun c_153 => ?_)
              · refine v_aload_n C 2 dX8_readSigns_164 rfl ?_
                refine v_iconst (v := 4) C dX8_readSigns_165 (by decide) ?_
                refine v_pI C 8 0 2 742 (C_m C (u_8 0 (by decide))) k_8 ty_8 (by decide) rfl ⟨rfl, rfl⟩ x_131 rfl rfl dX8_readSigns_166 ?_
                refine v_w (w2 := (wS (wS (wS w 742 0 (fun _ => 4)) 744 0 (fun _ => p)) 745 0 (fun _ => v))) (by simp only [wS_s, wS_t, wS_a, ne_eq, Nat.reduceEqDiff, not_false_eq_true, wS_wS, wS_p, wS_pp, Nat.reduceLT, id_eq]) ?_
                exact v_vret C dX8_readSigns_169 (congr (congrArg Prod.mk (wS_eq (wS_eq (wS_eq rfl (fu_eq (by clear C ih_21; rw [← hG, hX]; first | done | exact (nI_cl g1).symm | (simp only [fmF]; first | rw [if_pos (by clear g3 hX; grind)] | rw [if_neg (by clear g3 hX; grind), if_pos (by clear g3 hX; grind)] | rw [if_neg (by clear g3 hX; grind), if_neg (by clear g3 hX; grind)]); all_goals (exfalso; clear g3 hX; grind)))) (fu_eq (by clear C ih_21; rw [← hG, hX]; first | done | exact (nI_cl g1).symm | (simp only [fmF]; first | rw [if_pos (by clear g3 hX; grind)] | rw [if_neg (by clear g3 hX; grind), if_pos (by clear g3 hX; grind)] | rw [if_neg (by clear g3 hX; grind), if_neg (by clear g3 hX; grind)]); all_goals (exfalso; clear g3 hX; grind)))) (fu_eq (by clear C ih_21; rw [← hG, hX]; first | done | exact (nI_cl g1).symm | (simp only [fmF]; first | rw [if_pos (by clear g3 hX; grind)] | rw [if_neg (by clear g3 hX; grind), if_pos (by clear g3 hX; grind)] | rw [if_neg (by clear g3 hX; grind), if_neg (by clear g3 hX; grind)]); all_goals (exfalso; clear g3 hX; grind))))) rfl)
              · refine v_aload_n C 2 dX8_readSigns_156 rfl ?_
                refine v_iconst (v := 2) C dX8_readSigns_157 (by decide) ?_
                refine v_pI C 8 0 2 742 (C_m C (u_8 0 (by decide))) k_8 ty_8 (by decide) rfl ⟨rfl, rfl⟩ x_131 rfl rfl dX8_readSigns_158 ?_
                refine v_goto C 169 dX8_readSigns_161 (by decide) ?_
                refine v_w (w2 := (wS (wS (wS w 742 0 (fun _ => 2)) 744 0 (fun _ => p)) 745 0 (fun _ => v))) (by simp only [wS_s, wS_t, wS_a, ne_eq, Nat.reduceEqDiff, not_false_eq_true, wS_wS, wS_p, wS_pp, Nat.reduceLT, id_eq]) ?_
                exact v_vret C dX8_readSigns_169 (congr (congrArg Prod.mk (wS_eq (wS_eq (wS_eq rfl (fu_eq (by clear C ih_21; rw [← hG, hX]; first | done | exact (nI_cl g1).symm | (simp only [fmF]; first | rw [if_pos (by clear g3 hX; grind)] | rw [if_neg (by clear g3 hX; grind), if_pos (by clear g3 hX; grind)] | rw [if_neg (by clear g3 hX; grind), if_neg (by clear g3 hX; grind)]); all_goals (exfalso; clear g3 hX; grind)))) (fu_eq (by clear C ih_21; rw [← hG, hX]; first | done | exact (nI_cl g1).symm | (simp only [fmF]; first | rw [if_pos (by clear g3 hX; grind)] | rw [if_neg (by clear g3 hX; grind), if_pos (by clear g3 hX; grind)] | rw [if_neg (by clear g3 hX; grind), if_neg (by clear g3 hX; grind)]); all_goals (exfalso; clear g3 hX; grind)))) (fu_eq (by clear C ih_21; rw [← hG, hX]; first | done | exact (nI_cl g1).symm | (simp only [fmF]; first | rw [if_pos (by clear g3 hX; grind)] | rw [if_neg (by clear g3 hX; grind), if_pos (by clear g3 hX; grind)] | rw [if_neg (by clear g3 hX; grind), if_neg (by clear g3 hX; grind)]); all_goals (exfalso; clear g3 hX; grind))))) rfl)
        · refine v_iload_n C 1 dX8_readSigns_124 rfl ?_
          refine v_iconst (v := 1) C dX8_readSigns_125 (by decide) ?_
          refine v_ic_lt C 142 dX8_readSigns_126 (by decide) (fun c_126 => ?_) (fun c_126 => ?_)
          · refine v_iload_n C 1 dX8_readSigns_142 rfl ?_
            refine v_if_ne C 164 dX8_readSigns_143 (by decide) (fun c_143 => ?_) (fun c_143 => ?_)
            · refine v_aload_n C 2 dX8_readSigns_164 rfl ?_
              refine v_iconst (v := 4) C dX8_readSigns_165 (by decide) ?_
              refine v_pI C 8 0 2 742 (C_m C (u_8 0 (by decide))) k_8 ty_8 (by decide) rfl ⟨rfl, rfl⟩ x_131 rfl rfl dX8_readSigns_166 ?_
              refine v_w (w2 := (wS (wS (wS w 742 0 (fun _ => 4)) 744 0 (fun _ => p)) 745 0 (fun _ => v))) (by simp only [wS_s, wS_t, wS_a, ne_eq, Nat.reduceEqDiff, not_false_eq_true, wS_wS, wS_p, wS_pp, Nat.reduceLT, id_eq]) ?_
              exact v_vret C dX8_readSigns_169 (congr (congrArg Prod.mk (wS_eq (wS_eq (wS_eq rfl (fu_eq (by clear C ih_21; rw [← hG, hX]; first | done | exact (nI_cl g1).symm | (simp only [fmF]; first | rw [if_pos (by clear g3 hX; grind)] | rw [if_neg (by clear g3 hX; grind), if_pos (by clear g3 hX; grind)] | rw [if_neg (by clear g3 hX; grind), if_neg (by clear g3 hX; grind)]); all_goals (exfalso; clear g3 hX; grind)))) (fu_eq (by clear C ih_21; rw [← hG, hX]; first | done | exact (nI_cl g1).symm | (simp only [fmF]; first | rw [if_pos (by clear g3 hX; grind)] | rw [if_neg (by clear g3 hX; grind), if_pos (by clear g3 hX; grind)] | rw [if_neg (by clear g3 hX; grind), if_neg (by clear g3 hX; grind)]); all_goals (exfalso; clear g3 hX; grind)))) (fu_eq (by clear C ih_21; rw [← hG, hX]; first | done | exact (nI_cl g1).symm | (simp only [fmF]; first | rw [if_pos (by clear g3 hX; grind)] | rw [if_neg (by clear g3 hX; grind), if_pos (by clear g3 hX; grind)] | rw [if_neg (by clear g3 hX; grind), if_neg (by clear g3 hX; grind)]); all_goals (exfalso; clear g3 hX; grind))))) rfl)
            · refine v_iload_n C 0 dX8_readSigns_146 rfl ?_
              refine v_iconst (v := 1) C dX8_readSigns_147 (by decide) ?_
              refine v_ic_lt C 164 dX8_readSigns_148 (by decide) (fun c_148 => ?_) (fun c_148 => ?_)
              · refine v_aload_n C 2 dX8_readSigns_164 rfl ?_
                refine v_iconst (v := 4) C dX8_readSigns_165 (by decide) ?_
                refine v_pI C 8 0 2 742 (C_m C (u_8 0 (by decide))) k_8 ty_8 (by decide) rfl ⟨rfl, rfl⟩ x_131 rfl rfl dX8_readSigns_166 ?_
                refine v_w (w2 := (wS (wS (wS w 742 0 (fun _ => 4)) 744 0 (fun _ => p)) 745 0 (fun _ => v))) (by simp only [wS_s, wS_t, wS_a, ne_eq, Nat.reduceEqDiff, not_false_eq_true, wS_wS, wS_p, wS_pp, Nat.reduceLT, id_eq]) ?_
                exact v_vret C dX8_readSigns_169 (congr (congrArg Prod.mk (wS_eq (wS_eq (wS_eq rfl (fu_eq (by clear C ih_21; rw [← hG, hX]; first | done | exact (nI_cl g1).symm | (simp only [fmF]; first | rw [if_pos (by clear g3 hX; grind)] | rw [if_neg (by clear g3 hX; grind), if_pos (by clear g3 hX; grind)] | rw [if_neg (by clear g3 hX; grind), if_neg (by clear g3 hX; grind)]); all_goals (exfalso; clear g3 hX; grind)))) (fu_eq (by clear C ih_21; rw [← hG, hX]; first | done | exact (nI_cl g1).symm | (simp only [fmF]; first | rw [if_pos (by clear g3 hX; grind)] | rw [if_neg (by clear g3 hX; grind), if_pos (by clear g3 hX; grind)] | rw [if_neg (by clear g3 hX; grind), if_neg (by clear g3 hX; grind)]); all_goals (exfalso; clear g3 hX; grind)))) (fu_eq (by clear C ih_21; rw [← hG, hX]; first | done | exact (nI_cl g1).symm | (simp only [fmF]; first | rw [if_pos (by clear g3 hX; grind)] | rw [if_neg (by clear g3 hX; grind), if_pos (by clear g3 hX; grind)] | rw [if_neg (by clear g3 hX; grind), if_neg (by clear g3 hX; grind)]); all_goals (exfalso; clear g3 hX; grind))))) rfl)
              · refine v_iload_n C 0 dX8_readSigns_151 rfl ?_
                refine v_iconst (v := 3) C dX8_readSigns_152 (by decide) ?_
                refine v_ic_gt C 164 dX8_readSigns_153 (by decide) (fun c_153 => ?_) (fun c_153 => ?_)
                · refine v_aload_n C 2 dX8_readSigns_164 rfl ?_
                  refine v_iconst (v := 4) C dX8_readSigns_165 (by decide) ?_
                  refine v_pI C 8 0 2 742 (C_m C (u_8 0 (by decide))) k_8 ty_8 (by decide) rfl ⟨rfl, rfl⟩ x_131 rfl rfl dX8_readSigns_166 ?_
                  refine v_w (w2 := (wS (wS (wS w 742 0 (fun _ => 4)) 744 0 (fun _ => p)) 745 0 (fun _ => v))) (by simp only [wS_s, wS_t, wS_a, ne_eq, Nat.reduceEqDiff, not_false_eq_true, wS_wS, wS_p, wS_pp, Nat.reduceLT, id_eq]) ?_
                  exact v_vret C dX8_readSigns_169 (congr (congrArg Prod.mk (wS_eq (wS_eq (wS_eq rfl (fu_eq (by clear C ih_21; rw [← hG, hX]; first | done | exact (nI_cl g1).symm | (simp only [fmF]; first | rw [if_pos (by clear g3 hX; grind)] | rw [if_neg (by clear g3 hX; grind), if_pos (by clear g3 hX; grind)] | rw [if_neg (by clear g3 hX; grind), if_neg (by clear g3 hX; grind)]); all_goals (exfalso; clear g3 hX; grind)))) (fu_eq (by clear C ih_21; rw [← hG, hX]; first | done | exact (nI_cl g1).symm | (simp only [fmF]; first | rw [if_pos (by clear g3 hX; grind)] | rw [if_neg (by clear g3 hX; grind), if_pos (by clear g3 hX; grind)] | rw [if_neg (by clear g3 hX; grind), if_neg (by clear g3 hX; grind)]); all_goals (exfalso; clear g3 hX; grind)))) (fu_eq (by clear C ih_21; rw [← hG, hX]; first | done | exact (nI_cl g1).symm | (simp only [fmF]; first | rw [if_pos (by clear g3 hX; grind)] | rw [if_neg (by clear g3 hX; grind), if_pos (by clear g3 hX; grind)] | rw [if_neg (by clear g3 hX; grind), if_neg (by clear g3 hX; grind)]); all_goals (exfalso; clear g3 hX; grind))))) rfl)
                · refine v_aload_n C 2 dX8_readSigns_156 rfl ?_
                  refine v_iconst (v := 2) C dX8_readSigns_157 (by decide) ?_
                  refine v_pI C 8 0 2 742 (C_m C (u_8 0 (by decide))) k_8 ty_8 (by decide) rfl ⟨rfl, rfl⟩ x_131 rfl rfl dX8_readSigns_158 ?_
                  refine v_goto C 169 dX8_readSigns_161 (by decide) ?_
                  refine v_w (w2 := (wS (wS (wS w 742 0 (fun _ => 2)) 744 0 (fun _ => p)) 745 0 (fun _ => v))) (by simp only [wS_s, wS_t, wS_a, ne_eq, Nat.reduceEqDiff, not_false_eq_true, wS_wS, wS_p, wS_pp, Nat.reduceLT, id_eq]) ?_
                  exact v_vret C dX8_readSigns_169 (congr (congrArg Prod.mk (wS_eq (wS_eq (wS_eq rfl (fu_eq (by clear C ih_21; rw [← hG, hX]; first | done | exact (nI_cl g1).symm | (simp only [fmF]; first | rw [if_pos (by clear g3 hX; grind)] | rw [if_neg (by clear g3 hX; grind), if_pos (by clear g3 hX; grind)] | rw [if_neg (by clear g3 hX; grind), if_neg (by clear g3 hX; grind)]); all_goals (exfalso; clear g3 hX; grind)))) (fu_eq (by clear C ih_21; rw [← hG, hX]; first | done | exact (nI_cl g1).symm | (simp only [fmF]; first | rw [if_pos (by clear g3 hX; grind)] | rw [if_neg (by clear g3 hX; grind), if_pos (by clear g3 hX; grind)] | rw [if_neg (by clear g3 hX; grind), if_neg (by clear g3 hX; grind)]); all_goals (exfalso; clear g3 hX; grind)))) (fu_eq (by clear C ih_21; rw [← hG, hX]; first | done | exact (nI_cl g1).symm | (simp only [fmF]; first | rw [if_pos (by clear g3 hX; grind)] | rw [if_neg (by clear g3 hX; grind), if_pos (by clear g3 hX; grind)] | rw [if_neg (by clear g3 hX; grind), if_neg (by clear g3 hX; grind)]); all_goals (exfalso; clear g3 hX; grind))))) rfl)
          · refine v_iload_n C 1 dX8_readSigns_129 rfl ?_
            refine v_iconst (v := 5) C dX8_readSigns_130 (by decide) ?_
            refine v_ic_gt C 142 dX8_readSigns_131 (by decide) (fun c_131 => ?_) (fun c_131 => ?_)
            · refine v_iload_n C 1 dX8_readSigns_142 rfl ?_
              refine v_if_ne C 164 dX8_readSigns_143 (by decide) (fun c_143 => ?_) (fun c_143 => ?_)
              · refine v_aload_n C 2 dX8_readSigns_164 rfl ?_
                refine v_iconst (v := 4) C dX8_readSigns_165 (by decide) ?_
                refine v_pI C 8 0 2 742 (C_m C (u_8 0 (by decide))) k_8 ty_8 (by decide) rfl ⟨rfl, rfl⟩ x_131 rfl rfl dX8_readSigns_166 ?_
                refine v_w (w2 := (wS (wS (wS w 742 0 (fun _ => 4)) 744 0 (fun _ => p)) 745 0 (fun _ => v))) (by simp only [wS_s, wS_t, wS_a, ne_eq, Nat.reduceEqDiff, not_false_eq_true, wS_wS, wS_p, wS_pp, Nat.reduceLT, id_eq]) ?_
                exact v_vret C dX8_readSigns_169 (congr (congrArg Prod.mk (wS_eq (wS_eq (wS_eq rfl (fu_eq (by clear C ih_21; rw [← hG, hX]; first | done | exact (nI_cl g1).symm | (simp only [fmF]; first | rw [if_pos (by clear g3 hX; grind)] | rw [if_neg (by clear g3 hX; grind), if_pos (by clear g3 hX; grind)] | rw [if_neg (by clear g3 hX; grind), if_neg (by clear g3 hX; grind)]); all_goals (exfalso; clear g3 hX; grind)))) (fu_eq (by clear C ih_21; rw [← hG, hX]; first | done | exact (nI_cl g1).symm | (simp only [fmF]; first | rw [if_pos (by clear g3 hX; grind)] | rw [if_neg (by clear g3 hX; grind), if_pos (by clear g3 hX; grind)] | rw [if_neg (by clear g3 hX; grind), if_neg (by clear g3 hX; grind)]); all_goals (exfalso; clear g3 hX; grind)))) (fu_eq (by clear C ih_21; rw [← hG, hX]; first | done | exact (nI_cl g1).symm | (simp only [fmF]; first | rw [if_pos (by clear g3 hX; grind)] | rw [if_neg (by clear g3 hX; grind), if_pos (by clear g3 hX; grind)] | rw [if_neg (by clear g3 hX; grind), if_neg (by clear g3 hX; grind)]); all_goals (exfalso; clear g3 hX; grind))))) rfl)
              · refine v_iload_n C 0 dX8_readSigns_146 rfl ?_
                refine v_iconst (v := 1) C dX8_readSigns_147 (by decide) ?_
                refine v_ic_lt C 164 dX8_readSigns_148 (by decide) (fun c_148 => ?_) (fun c_148 => ?_)
                · refine v_aload_n C 2 dX8_readSigns_164 rfl ?_
                  refine v_iconst (v := 4) C dX8_readSigns_165 (by decide) ?_
                  refine v_pI C 8 0 2 742 (C_m C (u_8 0 (by decide))) k_8 ty_8 (by decide) rfl ⟨rfl, rfl⟩ x_131 rfl rfl dX8_readSigns_166 ?_
                  refine v_w (w2 := (wS (wS (wS w 742 0 (fun _ => 4)) 744 0 (fun _ => p)) 745 0 (fun _ => v))) (by simp only [wS_s, wS_t, wS_a, ne_eq, Nat.reduceEqDiff, not_false_eq_true, wS_wS, wS_p, wS_pp, Nat.reduceLT, id_eq]) ?_
                  exact v_vret C dX8_readSigns_169 (congr (congrArg Prod.mk (wS_eq (wS_eq (wS_eq rfl (fu_eq (by clear C ih_21; rw [← hG, hX]; first | done | exact (nI_cl g1).symm | (simp only [fmF]; first | rw [if_pos (by clear g3 hX; grind)] | rw [if_neg (by clear g3 hX; grind), if_pos (by clear g3 hX; grind)] | rw [if_neg (by clear g3 hX; grind), if_neg (by clear g3 hX; grind)]); all_goals (exfalso; clear g3 hX; grind)))) (fu_eq (by clear C ih_21; rw [← hG, hX]; first | done | exact (nI_cl g1).symm | (simp only [fmF]; first | rw [if_pos (by clear g3 hX; grind)] | rw [if_neg (by clear g3 hX; grind), if_pos (by clear g3 hX; grind)] | rw [if_neg (by clear g3 hX; grind), if_neg (by clear g3 hX; grind)]); all_goals (exfalso; clear g3 hX; grind)))) (fu_eq (by clear C ih_21; rw [← hG, hX]; first | done | exact (nI_cl g1).symm | (simp only [fmF]; first | rw [if_pos (by clear g3 hX; grind)] | rw [if_neg (by clear g3 hX; grind), if_pos (by clear g3 hX; grind)] | rw [if_neg (by clear g3 hX; grind), if_neg (by clear g3 hX; grind)]); all_goals (exfalso; clear g3 hX; grind))))) rfl)
                · refine v_iload_n C 0 dX8_readSigns_151 rfl ?_
                  refine v_iconst (v := 3) C dX8_readSigns_152 (by decide) ?_
                  refine v_ic_gt C 164 dX8_readSigns_153 (by decide) (fun c_153 => ?_) (fun c_153 => ?_)
                  · refine v_aload_n C 2 dX8_readSigns_164 rfl ?_
                    refine v_iconst (v := 4) C dX8_readSigns_165 (by decide) ?_
                    refine v_pI C 8 0 2 742 (C_m C (u_8 0 (by decide))) k_8 ty_8 (by decide) rfl ⟨rfl, rfl⟩ x_131 rfl rfl dX8_readSigns_166 ?_
                    refine v_w (w2 := (wS (wS (wS w 742 0 (fun _ => 4)) 744 0 (fun _ => p)) 745 0 (fun _ => v))) (by simp only [wS_s, wS_t, wS_a, ne_eq, Nat.reduceEqDiff, not_false_eq_true, wS_wS, wS_p, wS_pp, Nat.reduceLT, id_eq]) ?_
                    exact v_vret C dX8_readSigns_169 (congr (congrArg Prod.mk (wS_eq (wS_eq (wS_eq rfl (fu_eq (by clear C ih_21; rw [← hG, hX]; first | done | exact (nI_cl g1).symm | (simp only [fmF]; first | rw [if_pos (by clear g3 hX; grind)] | rw [if_neg (by clear g3 hX; grind), if_pos (by clear g3 hX; grind)] | rw [if_neg (by clear g3 hX; grind), if_neg (by clear g3 hX; grind)]); all_goals (exfalso; clear g3 hX; grind)))) (fu_eq (by clear C ih_21; rw [← hG, hX]; first | done | exact (nI_cl g1).symm | (simp only [fmF]; first | rw [if_pos (by clear g3 hX; grind)] | rw [if_neg (by clear g3 hX; grind), if_pos (by clear g3 hX; grind)] | rw [if_neg (by clear g3 hX; grind), if_neg (by clear g3 hX; grind)]); all_goals (exfalso; clear g3 hX; grind)))) (fu_eq (by clear C ih_21; rw [← hG, hX]; first | done | exact (nI_cl g1).symm | (simp only [fmF]; first | rw [if_pos (by clear g3 hX; grind)] | rw [if_neg (by clear g3 hX; grind), if_pos (by clear g3 hX; grind)] | rw [if_neg (by clear g3 hX; grind), if_neg (by clear g3 hX; grind)]); all_goals (exfalso; clear g3 hX; grind))))) rfl)
                  · refine v_aload_n C 2 dX8_readSigns_156 rfl ?_
                    refine v_iconst (v := 2) C dX8_readSigns_157 (by decide) ?_
                    refine v_pI C 8 0 2 742 (C_m C (u_8 0 (by decide))) k_8 ty_8 (by decide) rfl ⟨rfl, rfl⟩ x_131 rfl rfl dX8_readSigns_158 ?_
                    refine v_goto C 169 dX8_readSigns_161 (by decide) ?_
                    refine v_w (w2 := (wS (wS (wS w 742 0 (fun _ => 2)) 744 0 (fun _ => p)) 745 0 (fun _ => v))) (by simp only [wS_s, wS_t, wS_a, ne_eq, Nat.reduceEqDiff, not_false_eq_true, wS_wS, wS_p, wS_pp, Nat.reduceLT, id_eq]) ?_
                    exact v_vret C dX8_readSigns_169 (congr (congrArg Prod.mk (wS_eq (wS_eq (wS_eq rfl (fu_eq (by clear C ih_21; rw [← hG, hX]; first | done | exact (nI_cl g1).symm | (simp only [fmF]; first | rw [if_pos (by clear g3 hX; grind)] | rw [if_neg (by clear g3 hX; grind), if_pos (by clear g3 hX; grind)] | rw [if_neg (by clear g3 hX; grind), if_neg (by clear g3 hX; grind)]); all_goals (exfalso; clear g3 hX; grind)))) (fu_eq (by clear C ih_21; rw [← hG, hX]; first | done | exact (nI_cl g1).symm | (simp only [fmF]; first | rw [if_pos (by clear g3 hX; grind)] | rw [if_neg (by clear g3 hX; grind), if_pos (by clear g3 hX; grind)] | rw [if_neg (by clear g3 hX; grind), if_neg (by clear g3 hX; grind)]); all_goals (exfalso; clear g3 hX; grind)))) (fu_eq (by clear C ih_21; rw [← hG, hX]; first | done | exact (nI_cl g1).symm | (simp only [fmF]; first | rw [if_pos (by clear g3 hX; grind)] | rw [if_neg (by clear g3 hX; grind), if_pos (by clear g3 hX; grind)] | rw [if_neg (by clear g3 hX; grind), if_neg (by clear g3 hX; grind)]); all_goals (exfalso; clear g3 hX; grind))))) rfl)
            · refine v_aload_n C 2 dX8_readSigns_134 rfl ?_
              refine v_iconst (v := 1) C dX8_readSigns_135 (by decide) ?_
              refine v_pI C 8 0 2 742 (C_m C (u_8 0 (by decide))) k_8 ty_8 (by decide) rfl ⟨rfl, rfl⟩ x_131 rfl rfl dX8_readSigns_136 ?_
              refine v_goto C 169 dX8_readSigns_139 (by decide) ?_
              refine v_w (w2 := (wS (wS (wS w 742 0 (fun _ => 1)) 744 0 (fun _ => p)) 745 0 (fun _ => v))) (by simp only [wS_s, wS_t, wS_a, ne_eq, Nat.reduceEqDiff, not_false_eq_true, wS_wS, wS_p, wS_pp, Nat.reduceLT, id_eq]) ?_
              exact v_vret C dX8_readSigns_169 (congr (congrArg Prod.mk (wS_eq (wS_eq (wS_eq rfl (fu_eq (by clear C ih_21; rw [← hG, hX]; first | done | exact (nI_cl g1).symm | (simp only [fmF]; first | rw [if_pos (by clear g3 hX; grind)] | rw [if_neg (by clear g3 hX; grind), if_pos (by clear g3 hX; grind)] | rw [if_neg (by clear g3 hX; grind), if_neg (by clear g3 hX; grind)]); all_goals (exfalso; clear g3 hX; grind)))) (fu_eq (by clear C ih_21; rw [← hG, hX]; first | done | exact (nI_cl g1).symm | (simp only [fmF]; first | rw [if_pos (by clear g3 hX; grind)] | rw [if_neg (by clear g3 hX; grind), if_pos (by clear g3 hX; grind)] | rw [if_neg (by clear g3 hX; grind), if_neg (by clear g3 hX; grind)]); all_goals (exfalso; clear g3 hX; grind)))) (fu_eq (by clear C ih_21; rw [← hG, hX]; first | done | exact (nI_cl g1).symm | (simp only [fmF]; first | rw [if_pos (by clear g3 hX; grind)] | rw [if_neg (by clear g3 hX; grind), if_pos (by clear g3 hX; grind)] | rw [if_neg (by clear g3 hX; grind), if_neg (by clear g3 hX; grind)]); all_goals (exfalso; clear g3 hX; grind))))) rfl)
      refine v_aload_n C 2 dX8_readSigns_21 rfl ?_
      refine v_gI C 8 0 4 744 p (C_m C (u_8 0 (by decide))) k_8 (by decide) rfl rfl x_133 (by simp only [wS_s, wS_t, wS_a, ne_eq, Nat.reduceEqDiff, not_false_eq_true]) dX8_readSigns_22 ?_
      refine v_aload_n C 2 dX8_readSigns_25 rfl ?_
      refine v_gR C 8 0 0 7 0 (C_m C (u_8 0 (by decide))) k_8 (by decide) x_129 (fun _ _ _ => rfl) dX8_readSigns_26 ?_
      refine v_gI C 7 0 1 661 (w 661 0 0) (C_m C (u_7 0 (by decide))) k_7 (by decide) rfl rfl x_115 (by simp only [wS_s, wS_t, wS_a, ne_eq, Nat.reduceEqDiff, not_false_eq_true]) dX8_readSigns_29 ?_
      refine v_ic_ge C 120 dX8_readSigns_32 (by decide) (fun c_32 => ?_) (fun c_32 => ?_)
      · exact hL120  (by clear C ih_21 hL120; rw [← g3]; first | (rw [show (w 661 0 0) = p by clear g3; grind, Nat.sub_self]; rfl) | (rw [g4 (by clear g3; grind)]; simp only [sgR]; rw [if_neg (by clear g3; grind), if_neg (by clear g3; grind)]))
      · refine v_aload_n C 2 dX8_readSigns_35 rfl ?_
        refine v_gI C 8 0 4 744 p (C_m C (u_8 0 (by decide))) k_8 (by decide) rfl rfl x_133 (by simp only [wS_s, wS_t, wS_a, ne_eq, Nat.reduceEqDiff, not_false_eq_true]) dX8_readSigns_36 ?_
        refine v_sipush (v := 740) C dX8_readSigns_39 (by decide) ?_
        refine v_ic_ge C 120 dX8_readSigns_42 (by decide) (fun c_42 => absurd c_42 (by clear C ih_21 hL120; clear g3; grind)) (fun c_42 => ?_)
        refine v_aload_n C 2 dX8_readSigns_45 rfl ?_
        refine v_gR C 8 0 0 7 0 (C_m C (u_8 0 (by decide))) k_8 (by decide) x_129 (fun _ _ _ => rfl) dX8_readSigns_46 ?_
        refine v_gR C 7 0 0 37 0 (C_m C (u_7 0 (by decide))) k_7 (by decide) x_111 (fun _ _ _ => rfl) dX8_readSigns_49 ?_
        refine v_aload_n C 2 dX8_readSigns_52 rfl ?_
        refine v_gI C 8 0 4 744 p (C_m C (u_8 0 (by decide))) k_8 (by decide) rfl rfl x_133 (by simp only [wS_s, wS_t, wS_a, ne_eq, Nat.reduceEqDiff, not_false_eq_true]) dX8_readSigns_53 ?_
        refine v_iald C 37 0 (C_m C (u_37 0 (by decide))) ⟨by decide, rfl, rfl⟩ (by exact v_in (N := 740) (by decide) (by clear g3; grind) (by clear g3; grind)) dX8_readSigns_56 ?_
        refine v_i (y := ((w 37 0) p.toNatClampNeg)) (by simp only [wS_s, wS_t, wS_a, ne_eq, Nat.reduceEqDiff, not_false_eq_true]) ?_
        refine v_istore_n (lv2 := [(3, .int ((w 37 0) p.toNatClampNeg)), (2, .int dg), (1, .int l), (0, .ref (E.ad 8 0))]) C dX8_readSigns_57 rfl (by decide) rfl ?_
        have hL107 : ∀ (l2 : Int32) (d2 : Int32) (v2 : Int32), (sgR (w 37 0) ((w 661 0 0).toNatClampNeg - (p.toNatClampNeg + 1)) (p.toNatClampNeg + 1) l2 d2 v2 = G) → V K E A 4 (QV K E A (P_X8_readSigns w z)) 107 [(2, .int d2), (1, .int l2), (0, .ref (E.ad 8 0))] [] (wS (wS w 744 0 (fun _ => p)) 745 0 (fun _ => v2)) z := by
          intro l2 d2 v2 hinv
          have g5 := hinv
          refine v_aload_n C 2 dX8_readSigns_107 rfl ?_
          refine v_dup C dX8_readSigns_108 rfl ?_
          refine v_gI C 8 0 4 744 p (C_m C (u_8 0 (by decide))) k_8 (by decide) rfl rfl x_133 (by simp only [wS_s, wS_t, wS_a, ne_eq, Nat.reduceEqDiff, not_false_eq_true]) dX8_readSigns_109 ?_
          refine v_iconst (v := 1) C dX8_readSigns_112 (by decide) ?_
          refine v_iadd C dX8_readSigns_113 ?_
          refine v_pI C 8 0 4 744 (C_m C (u_8 0 (by decide))) k_8 ty_8 (by decide) rfl ⟨rfl, rfl⟩ x_133 rfl rfl dX8_readSigns_114 ?_
          refine v_goto C 21 dX8_readSigns_117 (by decide) ?_
          refine v_w (w2 := (wS (wS w 744 0 (fun _ => (p + 1))) 745 0 (fun _ => v2))) (by simp only [wS_s, wS_t, wS_a, ne_eq, Nat.reduceEqDiff, not_false_eq_true, wS_wS, wS_p, wS_pp, Nat.reduceLT, id_eq]) ?_
          exact ih_21 l2 d2 (p + 1) v2 (by clear C ih_21 hL120; exact Nat.lt_of_lt_of_le (m_up (by clear g3; grind) (by clear g3; grind)) (Nat.le_of_lt_succ hm_)) (by clear C ih_21 hL120; exact ⟨by clear g3 g5; grind, by clear g3 g5; grind, by rw [cl_succ g1 (by clear g3 g5; grind)]; exact g5⟩)
        refine v_iload_n C 0 dX8_readSigns_58 rfl ?_
        refine v_bipush (v := 97) C dX8_readSigns_59 (by decide) ?_
        refine v_ic_lt C 76 dX8_readSigns_61 (by decide) (fun c_61 => ?_) (fun c_61 => ?_)
        · refine v_iload_n C 0 dX8_readSigns_76 rfl ?_
          refine v_bipush (v := 48) C dX8_readSigns_77 (by decide) ?_
          refine v_ic_lt C 120 dX8_readSigns_79 (by decide) (fun c_79 => ?_) (fun c_79 => ?_)
          · refine v_l [1, 2, 3] rfl ?_
            exact hL120  (by clear C ih_21 hL120 hL107; rw [← g3]; first | (rw [show (w 661 0 0) = p by clear g3; grind, Nat.sub_self]; rfl) | (rw [g4 (by clear g3; grind)]; simp only [sgR]; rw [if_neg (by clear g3; grind), if_neg (by clear g3; grind)]))
          · refine v_iload_n C 0 dX8_readSigns_82 rfl ?_
            refine v_bipush (v := 57) C dX8_readSigns_83 (by decide) ?_
            refine v_ic_gt C 120 dX8_readSigns_85 (by decide) (fun c_85 => ?_) (fun c_85 => ?_)
            · refine v_l [1, 2, 3] rfl ?_
              exact hL120  (by clear C ih_21 hL120 hL107; rw [← g3]; first | (rw [show (w 661 0 0) = p by clear g3; grind, Nat.sub_self]; rfl) | (rw [g4 (by clear g3; grind)]; simp only [sgR]; rw [if_neg (by clear g3; grind), if_neg (by clear g3; grind)]))
            · refine v_aload_n C 3 dX8_readSigns_88 rfl ?_
              refine v_aload_n C 3 dX8_readSigns_89 rfl ?_
              refine v_gI C 8 0 5 745 v (C_m C (u_8 0 (by decide))) k_8 (by decide) rfl rfl x_134 (by simp only [wS_s, wS_t, wS_a, ne_eq, Nat.reduceEqDiff, not_false_eq_true]) dX8_readSigns_90 ?_
              refine v_bipush (v := 10) C dX8_readSigns_93 (by decide) ?_
              refine v_imul C dX8_readSigns_95 ?_
              refine v_iload_n C 0 dX8_readSigns_96 rfl ?_
              refine v_iadd C dX8_readSigns_97 ?_
              refine v_bipush (v := 48) C dX8_readSigns_98 (by decide) ?_
              refine v_isub C dX8_readSigns_100 ?_
              refine v_pI C 8 0 5 745 (C_m C (u_8 0 (by decide))) k_8 ty_8 (by decide) rfl ⟨rfl, rfl⟩ x_134 rfl rfl dX8_readSigns_101 ?_
              refine v_iinc (v := dg + 1) (lv2 := [(2, .int (dg + 1)), (3, .int ((w 37 0) p.toNatClampNeg)), (1, .int l), (0, .ref (E.ad 8 0))]) C 1 dX8_readSigns_104 rfl rfl (by decide) rfl ?_
              refine v_w (w2 := (wS (wS w 744 0 (fun _ => p)) 745 0 (fun _ => (((v * 10) + ((w 37 0) p.toNatClampNeg)) - 48)))) (by simp only [wS_s, wS_t, wS_a, ne_eq, Nat.reduceEqDiff, not_false_eq_true, wS_wS, wS_p, wS_pp, Nat.reduceLT, id_eq]) ?_
              refine v_l [0, 2, 3] rfl ?_
              exact hL107 l (dg + 1) (((v * 10) + ((w 37 0) p.toNatClampNeg)) - 48) (by clear C ih_21 hL120 hL107; rw [← g3, g4 (by clear g3; grind)]; simp only [sgR]; (first | rw [if_pos (by clear g3; grind)] | rw [if_neg (by clear g3; grind), if_pos (by clear g3; grind)]); all_goals (exfalso; clear g3; grind))
        · refine v_iload_n C 0 dX8_readSigns_64 rfl ?_
          refine v_bipush (v := 122) C dX8_readSigns_65 (by decide) ?_
          refine v_ic_gt C 76 dX8_readSigns_67 (by decide) (fun c_67 => ?_) (fun c_67 => ?_)
          · refine v_iload_n C 0 dX8_readSigns_76 rfl ?_
            refine v_bipush (v := 48) C dX8_readSigns_77 (by decide) ?_
            refine v_ic_lt C 120 dX8_readSigns_79 (by decide) (fun c_79 => ?_) (fun c_79 => ?_)
            · refine v_l [1, 2, 3] rfl ?_
              exact hL120  (by clear C ih_21 hL120 hL107; rw [← g3]; first | (rw [show (w 661 0 0) = p by clear g3; grind, Nat.sub_self]; rfl) | (rw [g4 (by clear g3; grind)]; simp only [sgR]; rw [if_neg (by clear g3; grind), if_neg (by clear g3; grind)]))
            · refine v_iload_n C 0 dX8_readSigns_82 rfl ?_
              refine v_bipush (v := 57) C dX8_readSigns_83 (by decide) ?_
              refine v_ic_gt C 120 dX8_readSigns_85 (by decide) (fun c_85 => ?_) (fun c_85 => ?_)
              · refine v_l [1, 2, 3] rfl ?_
                exact hL120  (by clear C ih_21 hL120 hL107; rw [← g3]; first | (rw [show (w 661 0 0) = p by clear g3; grind, Nat.sub_self]; rfl) | (rw [g4 (by clear g3; grind)]; simp only [sgR]; rw [if_neg (by clear g3; grind), if_neg (by clear g3; grind)]))
              · refine v_aload_n C 3 dX8_readSigns_88 rfl ?_
                refine v_aload_n C 3 dX8_readSigns_89 rfl ?_
                refine v_gI C 8 0 5 745 v (C_m C (u_8 0 (by decide))) k_8 (by decide) rfl rfl x_134 (by simp only [wS_s, wS_t, wS_a, ne_eq, Nat.reduceEqDiff, not_false_eq_true]) dX8_readSigns_90 ?_
                refine v_bipush (v := 10) C dX8_readSigns_93 (by decide) ?_
                refine v_imul C dX8_readSigns_95 ?_
                refine v_iload_n C 0 dX8_readSigns_96 rfl ?_
                refine v_iadd C dX8_readSigns_97 ?_
                refine v_bipush (v := 48) C dX8_readSigns_98 (by decide) ?_
                refine v_isub C dX8_readSigns_100 ?_
                refine v_pI C 8 0 5 745 (C_m C (u_8 0 (by decide))) k_8 ty_8 (by decide) rfl ⟨rfl, rfl⟩ x_134 rfl rfl dX8_readSigns_101 ?_
                refine v_iinc (v := dg + 1) (lv2 := [(2, .int (dg + 1)), (3, .int ((w 37 0) p.toNatClampNeg)), (1, .int l), (0, .ref (E.ad 8 0))]) C 1 dX8_readSigns_104 rfl rfl (by decide) rfl ?_
                refine v_w (w2 := (wS (wS w 744 0 (fun _ => p)) 745 0 (fun _ => (((v * 10) + ((w 37 0) p.toNatClampNeg)) - 48)))) (by simp only [wS_s, wS_t, wS_a, ne_eq, Nat.reduceEqDiff, not_false_eq_true, wS_wS, wS_p, wS_pp, Nat.reduceLT, id_eq]) ?_
                refine v_l [0, 2, 3] rfl ?_
                exact hL107 l (dg + 1) (((v * 10) + ((w 37 0) p.toNatClampNeg)) - 48) (by clear C ih_21 hL120 hL107; rw [← g3, g4 (by clear g3; grind)]; simp only [sgR]; (first | rw [if_pos (by clear g3; grind)] | rw [if_neg (by clear g3; grind), if_pos (by clear g3; grind)]); all_goals (exfalso; clear g3; grind))
          · refine v_iinc (v := l + 1) (lv2 := [(1, .int (l + 1)), (3, .int ((w 37 0) p.toNatClampNeg)), (2, .int dg), (0, .ref (E.ad 8 0))]) C 2 dX8_readSigns_70 rfl rfl (by decide) rfl ?_
            refine v_goto C 107 dX8_readSigns_73 (by decide) ?_
            refine v_l [2, 0, 3] rfl ?_
            exact hL107 (l + 1) dg v (by clear C ih_21 hL120 hL107; rw [← g3, g4 (by clear g3; grind)]; simp only [sgR]; (first | rw [if_pos (by clear g3; grind)] | rw [if_neg (by clear g3; grind), if_pos (by clear g3; grind)]); all_goals (exfalso; clear g3; grind))
  refine v_w (w2 := (wS (wS w 744 0 (fun _ => (if 0 < (w 743 0 0) then (w 743 0 0) else 0))) 745 0 (fun _ => 0))) (by simp only [wS_s, wS_t, wS_a, ne_eq, Nat.reduceEqDiff, not_false_eq_true, wS_wS, wS_p, wS_pp, Nat.reduceLT, id_eq]) ?_
  exact hL21 _ 0 0 (if 0 < (w 743 0 0) then (w 743 0 0) else 0) 0 (Nat.lt_succ_self _) (by clear C hL21; exact ⟨by grind, by grind, by rw [hG, show (if 0 < (w 743 0 0) then (w 743 0 0) else 0) = (w 743 0 0) by grind]⟩)
