abbrev P_X8_read (w : Wi) (z : Wj) : WW → Prop := fun u_ => u_ = ((wS (wS (wS (wS w 742 0 (fun _ => (rdT ((w 37 0), (w 661 0 0), (w 741 0 0)) ((w 743 0 0), (w 744 0 0), (w 742 0 0), (w 745 0 0), (w 746 0 0), (w 747 0 0))).2.2.1)) 743 0 (fun _ => (rdT ((w 37 0), (w 661 0 0), (w 741 0 0)) ((w 743 0 0), (w 744 0 0), (w 742 0 0), (w 745 0 0), (w 746 0 0), (w 747 0 0))).1)) 744 0 (fun _ => (rdT ((w 37 0), (w 661 0 0), (w 741 0 0)) ((w 743 0 0), (w 744 0 0), (w 742 0 0), (w 745 0 0), (w 746 0 0), (w 747 0 0))).2.1)) 745 0 (fun _ => (rdT ((w 37 0), (w 661 0 0), (w 741 0 0)) ((w 743 0 0), (w 744 0 0), (w 742 0 0), (w 745 0 0), (w 746 0 0), (w 747 0 0))).2.2.2.1)), z)
set_option maxHeartbeats 4000000 in
set_option maxRecDepth 100000 in
theorem c_X8_read (E : En) (hE : q_ok E) (w : Wi) (z : Wj) (h1 : okT ((w 37 0), (w 661 0 0), (w 741 0 0)) ((w 743 0 0), (w 744 0 0), (w 742 0 0), (w 745 0 0), (w 746 0 0), (w 747 0 0))) : CtV M_X8_read E [.ref (E.ad 8 0)] w z (P_X8_read w z) := by
  refine ctV_of (lv := [(0, .ref (E.ad 8 0))]) hE m_X8_read (Nat.le_of_ble_eq_true rfl) rfl ?_
  intro K A C0
  have C : Cx K E A cX8_read 1 RX8 none { frames := 2, cells := 0, slots := 0, locals := 44 } := C0
  clear C0
  obtain ⟨h1, h2, h3, h4, h5⟩ := h1
  dsimp only at h1 h2 h3 h4 h5
  obtain ⟨Pk, hP⟩ : ∃ Pk : Nat, Pk = (skR (w 37 0) ((w 741 0 0).toNatClampNeg - (w 744 0 0).toNatClampNeg) (w 744 0 0).toNatClampNeg) := ⟨_, rfl⟩
  refine v_aload_n C 0 dX8_read_0 rfl ?_
  refine v_aload_n C 0 dX8_read_1 rfl ?_
  refine v_gI C 8 0 4 744 (w 744 0 0) (C_m C (u_8 0 (by decide))) k_8 (by decide) rfl rfl x_133 rfl dX8_read_2 ?_
  refine v_pI C 8 0 3 743 (C_m C (u_8 0 (by decide))) k_8 ty_8 (by decide) rfl ⟨rfl, rfl⟩ x_132 rfl rfl dX8_read_5 ?_
  have hL8 : ∀ (n_ : Nat) (s1 : Int32), (1000 - s1).toNatClampNeg < n_ → (0 ≤ s1 ∧ s1 ≤ (w 661 0 0) ∧ skR (w 37 0) ((w 741 0 0).toNatClampNeg - s1.toNatClampNeg) s1.toNatClampNeg = Pk) → V K E A 1 (QV K E A (P_X8_read w z)) 8 [(0, .ref (E.ad 8 0))] [] (wS w 743 0 (fun _ => s1)) z := by
    intro n_
    induction n_ with
    | zero => intro s1 hm_; exact absurd hm_ (Nat.not_lt_zero _)
    | succ n_ ih_8 =>
      intro s1 hm_ hinv
      obtain ⟨g1, g2, g3⟩ := hinv
      have g4 : s1 < (w 741 0 0) → (w 741 0 0).toNatClampNeg - s1.toNatClampNeg = (w 741 0 0).toNatClampNeg - (s1.toNatClampNeg + 1) + 1 := fun q => by have := (cl_lt g1 h4).mpr q; omega
      have hL64 : (Pk = s1.toNatClampNeg ∧ (s1 < (w 741 0 0) → ¬ ((w 37 0) s1.toNatClampNeg = 32 ∨ (w 37 0) s1.toNatClampNeg = 10))) → V K E A 1 (QV K E A (P_X8_read w z)) 64 [(0, .ref (E.ad 8 0))] [] (wS w 743 0 (fun _ => s1)) z := by
        intro  hinv
        obtain ⟨hX, hY⟩ := hinv
        refine v_aload_n C 0 dX8_read_64 rfl ?_
        refine v_gI C 8 0 3 743 s1 (C_m C (u_8 0 (by decide))) k_8 (by decide) rfl rfl x_132 (by simp only [wS_s, wS_t, wS_a, ne_eq, Nat.reduceEqDiff, not_false_eq_true]) dX8_read_65 ?_
        refine v_aload_n C 0 dX8_read_68 rfl ?_
        refine v_gI C 8 0 1 741 (w 741 0 0) (C_m C (u_8 0 (by decide))) k_8 (by decide) rfl rfl x_130 (by simp only [wS_s, wS_t, wS_a, ne_eq, Nat.reduceEqDiff, not_false_eq_true]) dX8_read_69 ?_
        refine v_ic_lt C 91 dX8_read_72 (by decide) (fun c_72 => ?_) (fun c_72 => ?_)
        · refine v_aload_n C 0 dX8_read_91 rfl ?_
          refine v_gR C 8 0 0 7 0 (C_m C (u_8 0 (by decide))) k_8 (by decide) x_129 (fun _ _ _ => rfl) dX8_read_92 ?_
          refine v_aload_n C 0 dX8_read_95 rfl ?_
          refine v_gI C 8 0 3 743 s1 (C_m C (u_8 0 (by decide))) k_8 (by decide) rfl rfl x_132 (by simp only [wS_s, wS_t, wS_a, ne_eq, Nat.reduceEqDiff, not_false_eq_true]) dX8_read_96 ?_
          refine v_vI C 7 0 [.int s1] 1 (c_X7_byteAt E hE _ _  s1  (by clear C ih_8; (try simp only [wS_s, wS_t, wS_a, ne_eq, Nat.reduceEqDiff, not_false_eq_true]); assumption)) m_X7_byteAt x_583 x_584 x_585 p_X7_byteAt rfl ⟨Nat.le_of_ble_eq_true rfl, Nat.le_of_ble_eq_true rfl⟩ (C_m C (u_7 0 (by decide))) k_7 rfl (Nat.le_of_ble_eq_true rfl) dX8_read_99 (fun r1 u1 v1 hp1 => ?_)
          obtain ⟨hr1, hu1⟩ := hp1
          subst hr1
          cases hu1
          refine v_i (y := if 0 ≤ s1 ∧ s1 < (w 661 0 0) then (w 37 0) (s1).toNatClampNeg else (-1)) (by simp only [wS_s, wS_t, wS_a, ne_eq, Nat.reduceEqDiff, not_false_eq_true]) ?_
          refine v_bipush (v := 59) C dX8_read_102 (by decide) ?_
          refine v_ic_ne C 125 dX8_read_104 (by decide) (fun c_104 => ?_) (fun c_104 => ?_)
          · refine v_aload_n C 0 dX8_read_125 rfl ?_
            refine v_vV C 8 0 [] 0 (c_X8_readSigns E hE _ _    (by clear C ih_8; (try simp only [wS_s, wS_t, wS_a, ne_eq, Nat.reduceEqDiff, not_false_eq_true]); assumption) (by clear C ih_8; (try simp only [wS_s, wS_t, wS_a, ne_eq, Nat.reduceEqDiff, not_false_eq_true]); assumption) (by clear C ih_8; (try simp only [wS_s, wS_t, wS_a, ne_eq, Nat.reduceEqDiff, not_false_eq_true]); assumption)) m_X8_readSigns x_587 x_589 x_0 p_X8_readSigns rfl ⟨Nat.le_of_ble_eq_true rfl, Nat.le_of_ble_eq_true rfl⟩ (C_m C (u_8 0 (by decide))) k_8 rfl (Nat.le_of_ble_eq_true rfl) dX8_read_126 (fun u2 v2 hp2 => ?_)
            have hu2 := hp2
            cases hu2
            refine v_w (w2 := (wS (wS (wS (wS w 742 0 (fun _ => fmF (sgR (w 37 0) (((w 661 0 0)).toNatClampNeg - (s1).toNatClampNeg) (s1).toNatClampNeg 0 0 0).2.1 (sgR (w 37 0) (((w 661 0 0)).toNatClampNeg - (s1).toNatClampNeg) (s1).toNatClampNeg 0 0 0).2.2.1)) 743 0 (fun _ => s1)) 744 0 (fun _ => nI (sgR (w 37 0) (((w 661 0 0)).toNatClampNeg - (s1).toNatClampNeg) (s1).toNatClampNeg 0 0 0).1)) 745 0 (fun _ => (sgR (w 37 0) (((w 661 0 0)).toNatClampNeg - (s1).toNatClampNeg) (s1).toNatClampNeg 0 0 0).2.2.2))) (by simp only [wS_s, wS_t, wS_a, ne_eq, Nat.reduceEqDiff, not_false_eq_true, wS_wS, wS_p, wS_pp, Nat.reduceLT, id_eq]) ?_
            have hpk : (skR (w 37 0) ((w 741 0 0).toNatClampNeg - (w 744 0 0).toNatClampNeg) (w 744 0 0).toNatClampNeg) = s1.toNatClampNeg := by rw [← hP]; exact hX
            exact v_vret C dX8_read_129 (congr (congrArg Prod.mk (wS_eq (wS_eq (wS_eq (wS_eq rfl (fu_eq (by clear C ih_8; simp only [rdT]; rw [hpk]; first | (rw [if_pos ((cl_le h4 g1).mpr (by clear g3; grind))]; done) | (rw [if_neg (fun q => absurd ((cl_le h4 g1).mp q) (by clear g3; grind)), if_pos (by clear g3; grind)]; first | done | exact (nI_cl g1).symm | (dsimp only; rw [← cl_succ g1 (by clear g3; grind), nI_cl (by clear g3; grind)])) | (rw [if_neg (fun q => absurd ((cl_le h4 g1).mp q) (by clear g3; grind)), if_neg (by clear g3; grind)]; first | done | exact (nI_cl g1).symm)))) (fu_eq (by clear C ih_8; simp only [rdT]; rw [hpk]; first | (rw [if_pos ((cl_le h4 g1).mpr (by clear g3; grind))]; done) | (rw [if_neg (fun q => absurd ((cl_le h4 g1).mp q) (by clear g3; grind)), if_pos (by clear g3; grind)]; first | done | exact (nI_cl g1).symm | (dsimp only; rw [← cl_succ g1 (by clear g3; grind), nI_cl (by clear g3; grind)])) | (rw [if_neg (fun q => absurd ((cl_le h4 g1).mp q) (by clear g3; grind)), if_neg (by clear g3; grind)]; first | done | exact (nI_cl g1).symm)))) (fu_eq (by clear C ih_8; simp only [rdT]; rw [hpk]; first | (rw [if_pos ((cl_le h4 g1).mpr (by clear g3; grind))]; done) | (rw [if_neg (fun q => absurd ((cl_le h4 g1).mp q) (by clear g3; grind)), if_pos (by clear g3; grind)]; first | done | exact (nI_cl g1).symm | (dsimp only; rw [← cl_succ g1 (by clear g3; grind), nI_cl (by clear g3; grind)])) | (rw [if_neg (fun q => absurd ((cl_le h4 g1).mp q) (by clear g3; grind)), if_neg (by clear g3; grind)]; first | done | exact (nI_cl g1).symm)))) (fu_eq (by clear C ih_8; simp only [rdT]; rw [hpk]; first | (rw [if_pos ((cl_le h4 g1).mpr (by clear g3; grind))]; done) | (rw [if_neg (fun q => absurd ((cl_le h4 g1).mp q) (by clear g3; grind)), if_pos (by clear g3; grind)]; first | done | exact (nI_cl g1).symm | (dsimp only; rw [← cl_succ g1 (by clear g3; grind), nI_cl (by clear g3; grind)])) | (rw [if_neg (fun q => absurd ((cl_le h4 g1).mp q) (by clear g3; grind)), if_neg (by clear g3; grind)]; first | done | exact (nI_cl g1).symm))))) rfl)
          · refine v_aload_n C 0 dX8_read_107 rfl ?_
            refine v_aload_n C 0 dX8_read_108 rfl ?_
            refine v_gI C 8 0 3 743 s1 (C_m C (u_8 0 (by decide))) k_8 (by decide) rfl rfl x_132 (by simp only [wS_s, wS_t, wS_a, ne_eq, Nat.reduceEqDiff, not_false_eq_true]) dX8_read_109 ?_
            refine v_iconst (v := 1) C dX8_read_112 (by decide) ?_
            refine v_iadd C dX8_read_113 ?_
            refine v_pI C 8 0 4 744 (C_m C (u_8 0 (by decide))) k_8 ty_8 (by decide) rfl ⟨rfl, rfl⟩ x_133 rfl rfl dX8_read_114 ?_
            refine v_aload_n C 0 dX8_read_117 rfl ?_
            refine v_iconst (v := 3) C dX8_read_118 (by decide) ?_
            refine v_pI C 8 0 2 742 (C_m C (u_8 0 (by decide))) k_8 ty_8 (by decide) rfl ⟨rfl, rfl⟩ x_131 rfl rfl dX8_read_119 ?_
            refine v_goto C 129 dX8_read_122 (by decide) ?_
            refine v_tS C 745 0 (by decide) ?_
            refine v_w (w2 := (wS (wS (wS (wS w 742 0 (fun _ => 3)) 743 0 (fun _ => s1)) 744 0 (fun _ => (s1 + 1))) 745 0 (fun _ => (w 745 0 0)))) (by simp only [wS_s, wS_t, wS_a, ne_eq, Nat.reduceEqDiff, not_false_eq_true, wS_wS, wS_p, wS_pp, Nat.reduceLT, id_eq]) ?_
            have hpk : (skR (w 37 0) ((w 741 0 0).toNatClampNeg - (w 744 0 0).toNatClampNeg) (w 744 0 0).toNatClampNeg) = s1.toNatClampNeg := by rw [← hP]; exact hX
            exact v_vret C dX8_read_129 (congr (congrArg Prod.mk (wS_eq (wS_eq (wS_eq (wS_eq rfl (fu_eq (by clear C ih_8; simp only [rdT]; rw [hpk]; first | (rw [if_pos ((cl_le h4 g1).mpr (by clear g3; grind))]; done) | (rw [if_neg (fun q => absurd ((cl_le h4 g1).mp q) (by clear g3; grind)), if_pos (by clear g3; grind)]; first | done | exact (nI_cl g1).symm | (dsimp only; rw [← cl_succ g1 (by clear g3; grind), nI_cl (by clear g3; grind)])) | (rw [if_neg (fun q => absurd ((cl_le h4 g1).mp q) (by clear g3; grind)), if_neg (by clear g3; grind)]; first | done | exact (nI_cl g1).symm)))) (fu_eq (by clear C ih_8; simp only [rdT]; rw [hpk]; first | (rw [if_pos ((cl_le h4 g1).mpr (by clear g3; grind))]; done) | (rw [if_neg (fun q => absurd ((cl_le h4 g1).mp q) (by clear g3; grind)), if_pos (by clear g3; grind)]; first | done | exact (nI_cl g1).symm | (dsimp only; rw [← cl_succ g1 (by clear g3; grind), nI_cl (by clear g3; grind)])) | (rw [if_neg (fun q => absurd ((cl_le h4 g1).mp q) (by clear g3; grind)), if_neg (by clear g3; grind)]; first | done | exact (nI_cl g1).symm)))) (fu_eq (by clear C ih_8; simp only [rdT]; rw [hpk]; first | (rw [if_pos ((cl_le h4 g1).mpr (by clear g3; grind))]; done) | (rw [if_neg (fun q => absurd ((cl_le h4 g1).mp q) (by clear g3; grind)), if_pos (by clear g3; grind)]; first | done | exact (nI_cl g1).symm | (dsimp only; rw [← cl_succ g1 (by clear g3; grind), nI_cl (by clear g3; grind)])) | (rw [if_neg (fun q => absurd ((cl_le h4 g1).mp q) (by clear g3; grind)), if_neg (by clear g3; grind)]; first | done | exact (nI_cl g1).symm)))) (fu_eq (by clear C ih_8; simp only [rdT]; rw [hpk]; first | (rw [if_pos ((cl_le h4 g1).mpr (by clear g3; grind))]; done) | (rw [if_neg (fun q => absurd ((cl_le h4 g1).mp q) (by clear g3; grind)), if_pos (by clear g3; grind)]; first | done | exact (nI_cl g1).symm | (dsimp only; rw [← cl_succ g1 (by clear g3; grind), nI_cl (by clear g3; grind)])) | (rw [if_neg (fun q => absurd ((cl_le h4 g1).mp q) (by clear g3; grind)), if_neg (by clear g3; grind)]; first | done | exact (nI_cl g1).symm))))) rfl)
        · refine v_aload_n C 0 dX8_read_75 rfl ?_
          refine v_aload_n C 0 dX8_read_76 rfl ?_
          refine v_gI C 8 0 1 741 (w 741 0 0) (C_m C (u_8 0 (by decide))) k_8 (by decide) rfl rfl x_130 (by simp only [wS_s, wS_t, wS_a, ne_eq, Nat.reduceEqDiff, not_false_eq_true]) dX8_read_77 ?_
          refine v_pI C 8 0 3 743 (C_m C (u_8 0 (by decide))) k_8 ty_8 (by decide) rfl ⟨rfl, rfl⟩ x_132 rfl rfl dX8_read_80 ?_
          refine v_aload_n C 0 dX8_read_83 rfl ?_
          refine v_iconst (v := 0) C dX8_read_84 (by decide) ?_
          refine v_pI C 8 0 2 742 (C_m C (u_8 0 (by decide))) k_8 ty_8 (by decide) rfl ⟨rfl, rfl⟩ x_131 rfl rfl dX8_read_85 ?_
          refine v_goto C 129 dX8_read_88 (by decide) ?_
          refine v_tS C 744 0 (by decide) ?_
          refine v_tS C 745 0 (by decide) ?_
          refine v_w (w2 := (wS (wS (wS (wS w 742 0 (fun _ => 0)) 743 0 (fun _ => (w 741 0 0))) 744 0 (fun _ => (w 744 0 0))) 745 0 (fun _ => (w 745 0 0)))) (by simp only [wS_s, wS_t, wS_a, ne_eq, Nat.reduceEqDiff, not_false_eq_true, wS_wS, wS_p, wS_pp, Nat.reduceLT, id_eq]) ?_
          have hpk : (skR (w 37 0) ((w 741 0 0).toNatClampNeg - (w 744 0 0).toNatClampNeg) (w 744 0 0).toNatClampNeg) = s1.toNatClampNeg := by rw [← hP]; exact hX
          exact v_vret C dX8_read_129 (congr (congrArg Prod.mk (wS_eq (wS_eq (wS_eq (wS_eq rfl (fu_eq (by clear C ih_8; simp only [rdT]; rw [hpk]; first | (rw [if_pos ((cl_le h4 g1).mpr (by clear g3; grind))]; done) | (rw [if_neg (fun q => absurd ((cl_le h4 g1).mp q) (by clear g3; grind)), if_pos (by clear g3; grind)]; first | done | exact (nI_cl g1).symm | (dsimp only; rw [← cl_succ g1 (by clear g3; grind), nI_cl (by clear g3; grind)])) | (rw [if_neg (fun q => absurd ((cl_le h4 g1).mp q) (by clear g3; grind)), if_neg (by clear g3; grind)]; first | done | exact (nI_cl g1).symm)))) (fu_eq (by clear C ih_8; simp only [rdT]; rw [hpk]; first | (rw [if_pos ((cl_le h4 g1).mpr (by clear g3; grind))]; done) | (rw [if_neg (fun q => absurd ((cl_le h4 g1).mp q) (by clear g3; grind)), if_pos (by clear g3; grind)]; first | done | exact (nI_cl g1).symm | (dsimp only; rw [← cl_succ g1 (by clear g3; grind), nI_cl (by clear g3; grind)])) | (rw [if_neg (fun q => absurd ((cl_le h4 g1).mp q) (by clear g3; grind)), if_neg (by clear g3; grind)]; first | done | exact (nI_cl g1).symm)))) (fu_eq (by clear C ih_8; simp only [rdT]; rw [hpk]; first | (rw [if_pos ((cl_le h4 g1).mpr (by clear g3; grind))]; done) | (rw [if_neg (fun q => absurd ((cl_le h4 g1).mp q) (by clear g3; grind)), if_pos (by clear g3; grind)]; first | done | exact (nI_cl g1).symm | (dsimp only; rw [← cl_succ g1 (by clear g3; grind), nI_cl (by clear g3; grind)])) | (rw [if_neg (fun q => absurd ((cl_le h4 g1).mp q) (by clear g3; grind)), if_neg (by clear g3; grind)]; first | done | exact (nI_cl g1).symm)))) (fu_eq (by clear C ih_8; simp only [rdT]; rw [hpk]; first | (rw [if_pos ((cl_le h4 g1).mpr (by clear g3; grind))]; done) | (rw [if_neg (fun q => absurd ((cl_le h4 g1).mp q) (by clear g3; grind)), if_pos (by clear g3; grind)]; first | done | exact (nI_cl g1).symm | (dsimp only; rw [← cl_succ g1 (by clear g3; grind), nI_cl (by clear g3; grind)])) | (rw [if_neg (fun q => absurd ((cl_le h4 g1).mp q) (by clear g3; grind)), if_neg (by clear g3; grind)]; first | done | exact (nI_cl g1).symm))))) rfl)
      refine v_aload_n C 0 dX8_read_8 rfl ?_
      refine v_gI C 8 0 3 743 s1 (C_m C (u_8 0 (by decide))) k_8 (by decide) rfl rfl x_132 (by simp only [wS_s, wS_t, wS_a, ne_eq, Nat.reduceEqDiff, not_false_eq_true]) dX8_read_9 ?_
      refine v_aload_n C 0 dX8_read_12 rfl ?_
      refine v_gI C 8 0 1 741 (w 741 0 0) (C_m C (u_8 0 (by decide))) k_8 (by decide) rfl rfl x_130 (by simp only [wS_s, wS_t, wS_a, ne_eq, Nat.reduceEqDiff, not_false_eq_true]) dX8_read_13 ?_
      refine v_ic_ge C 64 dX8_read_16 (by decide) (fun c_16 => ?_) (fun c_16 => ?_)
      · exact hL64  (by clear C ih_8 hL64; first | (refine ⟨?_, fun q => absurd q (by clear g3; grind)⟩; rw [← g3, show (w 741 0 0).toNatClampNeg - s1.toNatClampNeg = 0 from Nat.sub_eq_zero_of_le ((cl_le h4 g1).mpr (by clear g3; grind))]; rfl) | (refine ⟨?_, fun _ => by clear g3; grind⟩; rw [← g3, g4 (by clear g3; grind)]; simp only [skR]; rw [if_neg (by clear g3; grind)]))
      · have hL51 : (s1 < (w 741 0 0) ∧ skR (w 37 0) ((w 741 0 0).toNatClampNeg - (s1.toNatClampNeg + 1)) (s1.toNatClampNeg + 1) = Pk) → V K E A 1 (QV K E A (P_X8_read w z)) 51 [(0, .ref (E.ad 8 0))] [] (wS w 743 0 (fun _ => s1)) z := by
          intro  hinv
          obtain ⟨g6, g5⟩ := hinv
          refine v_aload_n C 0 dX8_read_51 rfl ?_
          refine v_dup C dX8_read_52 rfl ?_
          refine v_gI C 8 0 3 743 s1 (C_m C (u_8 0 (by decide))) k_8 (by decide) rfl rfl x_132 (by simp only [wS_s, wS_t, wS_a, ne_eq, Nat.reduceEqDiff, not_false_eq_true]) dX8_read_53 ?_
          refine v_iconst (v := 1) C dX8_read_56 (by decide) ?_
          refine v_iadd C dX8_read_57 ?_
          refine v_pI C 8 0 3 743 (C_m C (u_8 0 (by decide))) k_8 ty_8 (by decide) rfl ⟨rfl, rfl⟩ x_132 rfl rfl dX8_read_58 ?_
          refine v_goto C 8 dX8_read_61 (by decide) ?_
          refine v_w (w2 := (wS w 743 0 (fun _ => (s1 + 1)))) (by simp only [wS_s, wS_t, wS_a, ne_eq, Nat.reduceEqDiff, not_false_eq_true, wS_wS, wS_p, wS_pp, Nat.reduceLT, id_eq]) ?_
          exact ih_8 (s1 + 1) (by clear C ih_8 hL64; exact Nat.lt_of_lt_of_le (m_up (by clear g3; grind) (by clear g3; grind)) (Nat.le_of_lt_succ hm_)) (by clear C ih_8 hL64; exact ⟨by clear g3 g5; grind, by clear g3 g5; grind, by rw [cl_succ g1 (by clear g3 g5; grind)]; exact g5⟩)
        refine v_aload_n C 0 dX8_read_19 rfl ?_
        refine v_gR C 8 0 0 7 0 (C_m C (u_8 0 (by decide))) k_8 (by decide) x_129 (fun _ _ _ => rfl) dX8_read_20 ?_
        refine v_aload_n C 0 dX8_read_23 rfl ?_
        refine v_gI C 8 0 3 743 s1 (C_m C (u_8 0 (by decide))) k_8 (by decide) rfl rfl x_132 (by simp only [wS_s, wS_t, wS_a, ne_eq, Nat.reduceEqDiff, not_false_eq_true]) dX8_read_24 ?_
        refine v_vI C 7 0 [.int s1] 1 (c_X7_byteAt E hE _ _  s1  (by clear C ih_8 hL64 hL51; (try simp only [wS_s, wS_t, wS_a, ne_eq, Nat.reduceEqDiff, not_false_eq_true]); assumption)) m_X7_byteAt x_583 x_584 x_585 p_X7_byteAt rfl ⟨Nat.le_of_ble_eq_true rfl, Nat.le_of_ble_eq_true rfl⟩ (C_m C (u_7 0 (by decide))) k_7 rfl (Nat.le_of_ble_eq_true rfl) dX8_read_27 (fun r3 u3 v3 hp3 => ?_)
        obtain ⟨hr3, hu3⟩ := hp3
        subst hr3
        cases hu3
        refine v_i (y := if 0 ≤ s1 ∧ s1 < (w 661 0 0) then (w 37 0) (s1).toNatClampNeg else (-1)) (by simp only [wS_s, wS_t, wS_a, ne_eq, Nat.reduceEqDiff, not_false_eq_true]) ?_
        refine v_bipush (v := 32) C dX8_read_30 (by decide) ?_
        refine v_ic_eq C 51 dX8_read_32 (by decide) (fun c_32 => ?_) (fun c_32 => ?_)
        · exact hL51  (by clear C ih_8 hL64 hL51; refine ⟨by clear g3; grind, ?_⟩; rw [← g3, g4 (by clear g3; grind)]; simp only [skR]; rw [if_pos (by clear g3; grind)])
        · refine v_aload_n C 0 dX8_read_35 rfl ?_
          refine v_gR C 8 0 0 7 0 (C_m C (u_8 0 (by decide))) k_8 (by decide) x_129 (fun _ _ _ => rfl) dX8_read_36 ?_
          refine v_aload_n C 0 dX8_read_39 rfl ?_
          refine v_gI C 8 0 3 743 s1 (C_m C (u_8 0 (by decide))) k_8 (by decide) rfl rfl x_132 (by simp only [wS_s, wS_t, wS_a, ne_eq, Nat.reduceEqDiff, not_false_eq_true]) dX8_read_40 ?_
          refine v_vI C 7 0 [.int s1] 1 (c_X7_byteAt E hE _ _  s1  (by clear C ih_8 hL64 hL51; (try simp only [wS_s, wS_t, wS_a, ne_eq, Nat.reduceEqDiff, not_false_eq_true]); assumption)) m_X7_byteAt x_583 x_584 x_585 p_X7_byteAt rfl ⟨Nat.le_of_ble_eq_true rfl, Nat.le_of_ble_eq_true rfl⟩ (C_m C (u_7 0 (by decide))) k_7 rfl (Nat.le_of_ble_eq_true rfl) dX8_read_43 (fun r4 u4 v4 hp4 => ?_)
          obtain ⟨hr4, hu4⟩ := hp4
          subst hr4
          cases hu4
          refine v_i (y := if 0 ≤ s1 ∧ s1 < (w 661 0 0) then (w 37 0) (s1).toNatClampNeg else (-1)) (by simp only [wS_s, wS_t, wS_a, ne_eq, Nat.reduceEqDiff, not_false_eq_true]) ?_
          refine v_bipush (v := 10) C dX8_read_46 (by decide) ?_
          refine v_ic_ne C 64 dX8_read_48 (by decide) (fun c_48 => ?_) (fun c_48 => ?_)
          · exact hL64  (by clear C ih_8 hL64 hL51; first | (refine ⟨?_, fun q => absurd q (by clear g3; grind)⟩; rw [← g3, show (w 741 0 0).toNatClampNeg - s1.toNatClampNeg = 0 from Nat.sub_eq_zero_of_le ((cl_le h4 g1).mpr (by clear g3; grind))]; rfl) | (refine ⟨?_, fun _ => by clear g3; grind⟩; rw [← g3, g4 (by clear g3; grind)]; simp only [skR]; rw [if_neg (by clear g3; grind)]))
          · exact hL51  (by clear C ih_8 hL64 hL51; refine ⟨by clear g3; grind, ?_⟩; rw [← g3, g4 (by clear g3; grind)]; simp only [skR]; rw [if_pos (by clear g3; grind)])
  exact hL8 _ (w 744 0 0) (Nat.lt_succ_self _) (by clear C hL8; exact ⟨h1, h2, hP.symm⟩)
