abbrev P_X0_start (w : Wi) (z : Wj) (a : Nat) (r : Nat) : WW → Prop := fun u_ => u_ = ((wS (wS (wS (wS (wS (wS (wS (wS (wS w 13 a (fillR (w 13 a) (w 501 r 0) 17)) 15 a (fillR (w 15 a) (w 501 r 0) 17)) 16 a (fillR (w 16 a) 0 17)) 104 a (fun _ => 0)) 105 a (fun _ => 0)) 106 a (fun _ => 0)) 107 a (fun _ => (-1))) 108 a (fun _ => 0)) 109 a (fun _ => 0)), z)
set_option maxHeartbeats 4000000 in
set_option maxRecDepth 100000 in
theorem c_X0_start (E : En) (hE : q_ok E) (w : Wi) (z : Wj) (a : Nat) (hi_a : a < 4) (r : Nat) (hi_r : r < 4) : CtV M_X0_start E [.ref (E.ad 0 a), .ref (E.ad 5 r)] w z (P_X0_start w z a r) := by
  refine ctV_of (lv := [(0, .ref (E.ad 0 a)), (1, .ref (E.ad 5 r))]) hE m_X0_start (Nat.le_of_ble_eq_true rfl) rfl ?_
  intro K A C0
  have C : Cx K E A cX0_start 3 RX0 none { frames := 0, cells := 0, slots := 0, locals := 0 } := C0
  clear C0
  refine v_iconst (v := 0) C dX0_start_0 (by decide) ?_
  refine v_istore_n (lv2 := [(2, .int 0), (0, .ref (E.ad 0 a)), (1, .ref (E.ad 5 r))]) C dX0_start_1 rfl (by decide) rfl ?_
  have hL2 : ∀ (n_ : Nat) (i : Int32) (P : Row) (T : Row) (Y : Row), (17 - i).toNatClampNeg < n_ → (0 ≤ i ∧ i ≤ 17 ∧ P = fillR (w 13 a) (w 501 r 0) i.toNatClampNeg ∧ T = fillR (w 15 a) (w 501 r 0) i.toNatClampNeg ∧ Y = fillR (w 16 a) 0 i.toNatClampNeg) → V K E A 3 (QV K E A (P_X0_start w z a r)) 2 [(2, .int i), (0, .ref (E.ad 0 a)), (1, .ref (E.ad 5 r))] [] (wS (wS (wS w 13 a P) 15 a T) 16 a Y) z := by
    intro n_
    induction n_ with
    | zero => intro i P T Y hm_; exact absurd hm_ (Nat.not_lt_zero _)
    | succ n_ ih_2 =>
      intro i P T Y hm_ hinv
      obtain ⟨g1, g2, eP, eT, eY⟩ := hinv
      refine v_iload_n C 0 dX0_start_2 rfl ?_
      refine v_bipush (v := 17) C dX0_start_3 (by decide) ?_
      refine v_ic_ge C 41 dX0_start_5 (by decide) (fun c_5 => ?_) (fun c_5 => ?_)
      · refine v_aload_n C 1 dX0_start_41 rfl ?_
        refine v_iconst (v := 0) C dX0_start_42 (by decide) ?_
        refine v_pI C 0 a 4 104 (C_m C (u_0 a hi_a)) k_0 ty_0 (by decide) rfl ⟨rfl, rfl⟩ x_286 rfl rfl dX0_start_43 ?_
        refine v_aload_n C 1 dX0_start_46 rfl ?_
        refine v_iconst (v := 0) C dX0_start_47 (by decide) ?_
        refine v_pI C 0 a 5 105 (C_m C (u_0 a hi_a)) k_0 ty_0 (by decide) rfl ⟨rfl, rfl⟩ x_287 rfl rfl dX0_start_48 ?_
        refine v_aload_n C 1 dX0_start_51 rfl ?_
        refine v_iconst (v := 0) C dX0_start_52 (by decide) ?_
        refine v_pI C 0 a 6 106 (C_m C (u_0 a hi_a)) k_0 ty_0 (by decide) rfl ⟨rfl, rfl⟩ x_288 (by decide) (by decide) dX0_start_53 ?_
        refine v_aload_n C 1 dX0_start_56 rfl ?_
        refine v_iconst (v := (-1)) C dX0_start_57 (by decide) ?_
        refine v_pI C 0 a 7 107 (C_m C (u_0 a hi_a)) k_0 ty_0 (by decide) rfl ⟨rfl, rfl⟩ x_289 rfl rfl dX0_start_58 ?_
        refine v_aload_n C 1 dX0_start_61 rfl ?_
        refine v_iconst (v := 0) C dX0_start_62 (by decide) ?_
        refine v_pI C 0 a 8 108 (C_m C (u_0 a hi_a)) k_0 ty_0 (by decide) rfl ⟨rfl, rfl⟩ x_290 rfl rfl dX0_start_63 ?_
        refine v_aload_n C 1 dX0_start_66 rfl ?_
        refine v_iconst (v := 0) C dX0_start_67 (by decide) ?_
        refine v_pI C 0 a 9 109 (C_m C (u_0 a hi_a)) k_0 ty_0 (by decide) rfl ⟨rfl, rfl⟩ x_291 (by decide) (by decide) dX0_start_68 ?_
        exact v_vret C dX0_start_71 (congr (congrArg Prod.mk (wS_eq (wS_eq (wS_eq (wS_eq (wS_eq (wS_eq (wS_eq (wS_eq (wS_eq rfl (by clear C ih_2; have hi : i = 17 := (by grind); subst hi; assumption)) (by clear C ih_2; have hi : i = 17 := (by grind); subst hi; assumption)) (by clear C ih_2; have hi : i = 17 := (by grind); subst hi; assumption)) rfl) rfl) rfl) rfl) rfl) rfl)) rfl)
      · refine v_aload_n C 1 dX0_start_8 rfl ?_
        refine v_gR C 0 a 0 13 a (C_m C (u_0 a hi_a)) k_0 (by decide) x_281 (fun _ _ _ => rfl) dX0_start_9 ?_
        refine v_iload_n C 0 dX0_start_12 rfl ?_
        refine v_aload_n C 2 dX0_start_13 rfl ?_
        refine v_gI C 5 r 1 501 (w 501 r 0) (C_m C (u_5 r hi_r)) k_5 (by decide) rfl rfl x_176 (by simp only [wS_s, wS_t, wS_a, ne_eq, Nat.reduceEqDiff, not_false_eq_true]) dX0_start_14 ?_
        refine v_iast C 13 a (C_m C (u_13 a hi_a)) ⟨by decide, rfl, rfl⟩ (v_in (N := 17) (by decide) (by clear C ih_2; grind) (by clear C ih_2; grind)) dX0_start_17 ?_
        refine v_aload_n C 1 dX0_start_18 rfl ?_
        refine v_gR C 0 a 2 15 a (C_m C (u_0 a hi_a)) k_0 (by decide) x_283 (fun _ _ _ => rfl) dX0_start_19 ?_
        refine v_iload_n C 0 dX0_start_22 rfl ?_
        refine v_aload_n C 2 dX0_start_23 rfl ?_
        refine v_gI C 5 r 1 501 (w 501 r 0) (C_m C (u_5 r hi_r)) k_5 (by decide) rfl rfl x_176 (by simp only [wS_s, wS_t, wS_a, ne_eq, Nat.reduceEqDiff, not_false_eq_true]) dX0_start_24 ?_
        refine v_iast C 15 a (C_m C (u_15 a hi_a)) ⟨by decide, rfl, rfl⟩ (v_in (N := 17) (by decide) (by clear C ih_2; grind) (by clear C ih_2; grind)) dX0_start_27 ?_
        refine v_aload_n C 1 dX0_start_28 rfl ?_
        refine v_gR C 0 a 3 16 a (C_m C (u_0 a hi_a)) k_0 (by decide) x_284 (fun _ _ _ => rfl) dX0_start_29 ?_
        refine v_iload_n C 0 dX0_start_32 rfl ?_
        refine v_iconst (v := 0) C dX0_start_33 (by decide) ?_
        refine v_iast C 16 a (C_m C (u_16 a hi_a)) ⟨by decide, rfl, rfl⟩ (v_in (N := 17) (by decide) (by clear C ih_2; grind) (by clear C ih_2; grind)) dX0_start_34 ?_
        refine v_iinc (v := i + 1) (lv2 := [(2, .int (i + 1)), (0, .ref (E.ad 0 a)), (1, .ref (E.ad 5 r))]) C 0 dX0_start_35 rfl rfl (by decide) rfl ?_
        refine v_goto C 2 dX0_start_38 (by decide) ?_
        refine v_w (w2 := (wS (wS (wS w 13 a (upd P i.toNatClampNeg (w 501 r 0))) 15 a (upd T i.toNatClampNeg (w 501 r 0))) 16 a (upd Y i.toNatClampNeg 0))) (by simp only [wS_s, wS_t, wS_a, ne_eq, Nat.reduceEqDiff, not_false_eq_true, wS_wS, wS_p, wS_pp, Nat.reduceLT, id_eq]) ?_
        exact ih_2 (i + 1) (upd P i.toNatClampNeg (w 501 r 0)) (upd T i.toNatClampNeg (w 501 r 0)) (upd Y i.toNatClampNeg 0) (by clear C ih_2; exact Nat.lt_of_lt_of_le (m_up (by grind) (by grind)) (Nat.le_of_lt_succ hm_)) (by clear C ih_2; exact ⟨by grind, by grind, by rw [cl_succ (by grind) (by grind), ← fillR_s, eP], by rw [cl_succ (by grind) (by grind), ← fillR_s, eT], by rw [cl_succ (by grind) (by grind), ← fillR_s, eY]⟩)
  refine v_w (wS_id _ 13 a).symm ?_
  refine v_w (wS_id _ 15 a).symm ?_
  refine v_w (wS_id _ 16 a).symm ?_
  refine v_w (w2 := (wS (wS (wS w 13 a (w 13 a)) 15 a (w 15 a)) 16 a (w 16 a))) (by simp only [wS_s, wS_t, wS_a, ne_eq, Nat.reduceEqDiff, not_false_eq_true, wS_wS, wS_p, wS_pp, Nat.reduceLT, id_eq]) ?_
  exact hL2 _ 0 (w 13 a) (w 15 a) (w 16 a) (Nat.lt_succ_self _) (by clear C hL2; exact ⟨by decide, by decide, (fillR_0 _ _).symm, (fillR_0 _ _).symm, (fillR_0 _ _).symm⟩)
abbrev P_X0_copyFrom (w : Wi) (z : Wj) (a : Nat) (b : Nat) (hab : b ≠ a) : WW → Prop := fun u_ => u_ = ((wS (wS (wS (wS (wS (wS (wS (wS (wS w 13 a (va_cpy (w 13 b) (w 13 a) 0 0 17)) 15 a (va_cpy (w 15 b) (w 15 a) 0 0 17)) 16 a (va_cpy (w 16 b) (w 16 a) 0 0 17)) 104 a (fun _ => (w 104 b 0))) 105 a (fun _ => (w 105 b 0))) 106 a (fun _ => (w 106 b 0))) 107 a (fun _ => (w 107 b 0))) 108 a (fun _ => (w 108 b 0))) 109 a (fun _ => (w 109 b 0))), z)
set_option maxHeartbeats 4000000 in
set_option maxRecDepth 100000 in
theorem c_X0_copyFrom (E : En) (hE : q_ok E) (w : Wi) (z : Wj) (a : Nat) (hi_a : a < 4) (b : Nat) (hi_b : b < 4) (hab : b ≠ a) (h1 : (w 106 b 0) = 0 ∨ (w 106 b 0) = 1) (h2 : (w 109 b 0) = 0 ∨ (w 109 b 0) = 1) : CtV M_X0_copyFrom E [.ref (E.ad 0 a), .ref (E.ad 0 b)] w z (P_X0_copyFrom w z a b hab) := by
  refine ctV_of (lv := [(0, .ref (E.ad 0 a)), (1, .ref (E.ad 0 b))]) hE m_X0_copyFrom (Nat.le_of_ble_eq_true rfl) rfl ?_
  intro K A C0
  have C : Cx K E A cX0_copyFrom 2 RX0 none { frames := 1, cells := 0, slots := 0, locals := 26 } := C0
  clear C0
  refine v_aload_n C 1 dX0_copyFrom_0 rfl ?_
  refine v_gR C 0 b 0 13 b (C_m C (u_0 b hi_b)) k_0 (by decide) x_281 (fun _ _ _ => rfl) dX0_copyFrom_1 ?_
  refine v_iconst (v := 0) C dX0_copyFrom_4 (by decide) ?_
  refine v_aload_n C 0 dX0_copyFrom_5 rfl ?_
  refine v_gR C 0 a 0 13 a (C_m C (u_0 a hi_a)) k_0 (by decide) x_281 (fun _ _ _ => rfl) dX0_copyFrom_6 ?_
  refine v_iconst (v := 0) C dX0_copyFrom_9 (by decide) ?_
  refine v_bipush (v := 17) C dX0_copyFrom_10 (by decide) ?_
  refine v_copyi C 13 b 13 a x_799 x_777 x_776 x_90 (C_m C (u_13 b hi_b)) ⟨by decide, rfl, rfl⟩ (C_m C (u_13 a hi_a)) ⟨by decide, rfl, rfl⟩ (by decide) (by decide) (by decide) (by decide) (by decide) ⟨by decide, Nat.le_of_ble_eq_true rfl⟩ dX0_copyFrom_12 ?_
  refine v_w (w2 := (wS w 13 a (va_cpy (w 13 b) (w 13 a) 0 0 17))) (by first | rfl | (simp only [wS_s, wS_t, wS_a, ne_eq, Nat.reduceEqDiff, not_false_eq_true, wS_wS, wS_p, wS_pp, Nat.reduceLT, id_eq, hab]; try rfl)) ?_
  refine v_aload_n C 1 dX0_copyFrom_15 rfl ?_
  refine v_gR C 0 b 2 15 b (C_m C (u_0 b hi_b)) k_0 (by decide) x_283 (fun _ _ _ => rfl) dX0_copyFrom_16 ?_
  refine v_iconst (v := 0) C dX0_copyFrom_19 (by decide) ?_
  refine v_aload_n C 0 dX0_copyFrom_20 rfl ?_
  refine v_gR C 0 a 2 15 a (C_m C (u_0 a hi_a)) k_0 (by decide) x_283 (fun _ _ _ => rfl) dX0_copyFrom_21 ?_
  refine v_iconst (v := 0) C dX0_copyFrom_24 (by decide) ?_
  refine v_bipush (v := 17) C dX0_copyFrom_25 (by decide) ?_
  refine v_copyi C 15 b 15 a x_799 x_777 x_776 x_90 (C_m C (u_15 b hi_b)) ⟨by decide, rfl, rfl⟩ (C_m C (u_15 a hi_a)) ⟨by decide, rfl, rfl⟩ (by decide) (by decide) (by decide) (by decide) (by decide) ⟨by decide, Nat.le_of_ble_eq_true rfl⟩ dX0_copyFrom_27 ?_
  refine v_w (w2 := (wS (wS w 13 a (va_cpy (w 13 b) (w 13 a) 0 0 17)) 15 a (va_cpy (w 15 b) (w 15 a) 0 0 17))) (by first | rfl | (simp only [wS_s, wS_t, wS_a, ne_eq, Nat.reduceEqDiff, not_false_eq_true, wS_wS, wS_p, wS_pp, Nat.reduceLT, id_eq, hab]; try rfl)) ?_
  refine v_aload_n C 1 dX0_copyFrom_30 rfl ?_
  refine v_gR C 0 b 3 16 b (C_m C (u_0 b hi_b)) k_0 (by decide) x_284 (fun _ _ _ => rfl) dX0_copyFrom_31 ?_
  refine v_iconst (v := 0) C dX0_copyFrom_34 (by decide) ?_
  refine v_aload_n C 0 dX0_copyFrom_35 rfl ?_
  refine v_gR C 0 a 3 16 a (C_m C (u_0 a hi_a)) k_0 (by decide) x_284 (fun _ _ _ => rfl) dX0_copyFrom_36 ?_
  refine v_iconst (v := 0) C dX0_copyFrom_39 (by decide) ?_
  refine v_bipush (v := 17) C dX0_copyFrom_40 (by decide) ?_
  refine v_copyi C 16 b 16 a x_799 x_777 x_776 x_90 (C_m C (u_16 b hi_b)) ⟨by decide, rfl, rfl⟩ (C_m C (u_16 a hi_a)) ⟨by decide, rfl, rfl⟩ (by decide) (by decide) (by decide) (by decide) (by decide) ⟨by decide, Nat.le_of_ble_eq_true rfl⟩ dX0_copyFrom_42 ?_
  refine v_w (w2 := (wS (wS (wS w 13 a (va_cpy (w 13 b) (w 13 a) 0 0 17)) 15 a (va_cpy (w 15 b) (w 15 a) 0 0 17)) 16 a (va_cpy (w 16 b) (w 16 a) 0 0 17))) (by first | rfl | (simp only [wS_s, wS_t, wS_a, ne_eq, Nat.reduceEqDiff, not_false_eq_true, wS_wS, wS_p, wS_pp, Nat.reduceLT, id_eq, hab]; try rfl)) ?_
  refine v_aload_n C 0 dX0_copyFrom_45 rfl ?_
  refine v_aload_n C 1 dX0_copyFrom_46 rfl ?_
  refine v_gI C 0 b 4 104 (w 104 b 0) (C_m C (u_0 b hi_b)) k_0 (by decide) rfl rfl x_286 (by simp only [wS_s, wS_t, wS_a, ne_eq, Nat.reduceEqDiff, not_false_eq_true, hab]) dX0_copyFrom_47 ?_
  refine v_pI C 0 a 4 104 (C_m C (u_0 a hi_a)) k_0 ty_0 (by decide) rfl ⟨rfl, rfl⟩ x_286 rfl rfl dX0_copyFrom_50 ?_
  refine v_aload_n C 0 dX0_copyFrom_53 rfl ?_
  refine v_aload_n C 1 dX0_copyFrom_54 rfl ?_
  refine v_gI C 0 b 5 105 (w 105 b 0) (C_m C (u_0 b hi_b)) k_0 (by decide) rfl rfl x_287 (by simp only [wS_s, wS_t, wS_a, ne_eq, Nat.reduceEqDiff, not_false_eq_true, hab]) dX0_copyFrom_55 ?_
  refine v_pI C 0 a 5 105 (C_m C (u_0 a hi_a)) k_0 ty_0 (by decide) rfl ⟨rfl, rfl⟩ x_287 rfl rfl dX0_copyFrom_58 ?_
  refine v_aload_n C 0 dX0_copyFrom_61 rfl ?_
  refine v_aload_n C 1 dX0_copyFrom_62 rfl ?_
  refine v_gI C 0 b 6 106 (w 106 b 0) (C_m C (u_0 b hi_b)) k_0 (by decide) rfl rfl x_288 (by simp only [wS_s, wS_t, wS_a, ne_eq, Nat.reduceEqDiff, not_false_eq_true, hab]) dX0_copyFrom_63 ?_
  refine v_pI C 0 a 6 106 (C_m C (u_0 a hi_a)) k_0 ty_0 (by decide) rfl ⟨rfl, rfl⟩ x_288 (nb h1) (fb h1) dX0_copyFrom_66 ?_
  refine v_aload_n C 0 dX0_copyFrom_69 rfl ?_
  refine v_aload_n C 1 dX0_copyFrom_70 rfl ?_
  refine v_gI C 0 b 7 107 (w 107 b 0) (C_m C (u_0 b hi_b)) k_0 (by decide) rfl rfl x_289 (by simp only [wS_s, wS_t, wS_a, ne_eq, Nat.reduceEqDiff, not_false_eq_true, hab]) dX0_copyFrom_71 ?_
  refine v_pI C 0 a 7 107 (C_m C (u_0 a hi_a)) k_0 ty_0 (by decide) rfl ⟨rfl, rfl⟩ x_289 rfl rfl dX0_copyFrom_74 ?_
  refine v_aload_n C 0 dX0_copyFrom_77 rfl ?_
  refine v_aload_n C 1 dX0_copyFrom_78 rfl ?_
  refine v_gI C 0 b 8 108 (w 108 b 0) (C_m C (u_0 b hi_b)) k_0 (by decide) rfl rfl x_290 (by simp only [wS_s, wS_t, wS_a, ne_eq, Nat.reduceEqDiff, not_false_eq_true, hab]) dX0_copyFrom_79 ?_
  refine v_pI C 0 a 8 108 (C_m C (u_0 a hi_a)) k_0 ty_0 (by decide) rfl ⟨rfl, rfl⟩ x_290 rfl rfl dX0_copyFrom_82 ?_
  refine v_aload_n C 0 dX0_copyFrom_85 rfl ?_
  refine v_aload_n C 1 dX0_copyFrom_86 rfl ?_
  refine v_gI C 0 b 9 109 (w 109 b 0) (C_m C (u_0 b hi_b)) k_0 (by decide) rfl rfl x_291 (by simp only [wS_s, wS_t, wS_a, ne_eq, Nat.reduceEqDiff, not_false_eq_true, hab]) dX0_copyFrom_87 ?_
  refine v_pI C 0 a 9 109 (C_m C (u_0 a hi_a)) k_0 ty_0 (by decide) rfl ⟨rfl, rfl⟩ x_291 (nb h2) (fb h2) dX0_copyFrom_90 ?_
  exact v_vret C dX0_copyFrom_93 (congr (congrArg Prod.mk rfl) rfl)
abbrev P_X0_dumpFromNowOn (w : Wi) (z : Wj) (a : Nat) : WW → Prop := fun u_ => u_ = ((wS (wS w 106 a (fun _ => 1)) 109 a (fun _ => 0)), z)
set_option maxHeartbeats 4000000 in
set_option maxRecDepth 100000 in
theorem c_X0_dumpFromNowOn (E : En) (hE : q_ok E) (w : Wi) (z : Wj) (a : Nat) (hi_a : a < 4) : CtV M_X0_dumpFromNowOn E [.ref (E.ad 0 a)] w z (P_X0_dumpFromNowOn w z a) := by
  refine ctV_of (lv := [(0, .ref (E.ad 0 a))]) hE m_X0_dumpFromNowOn (Nat.le_of_ble_eq_true rfl) rfl ?_
  intro K A C0
  have C : Cx K E A cX0_dumpFromNowOn 1 RX0 none { frames := 0, cells := 0, slots := 0, locals := 0 } := C0
  clear C0
  refine v_aload_n C 0 dX0_dumpFromNowOn_0 rfl ?_
  refine v_iconst (v := 1) C dX0_dumpFromNowOn_1 (by decide) ?_
  refine v_pI C 0 a 6 106 (C_m C (u_0 a hi_a)) k_0 ty_0 (by decide) rfl ⟨rfl, rfl⟩ x_288 (by decide) (by decide) dX0_dumpFromNowOn_2 ?_
  refine v_aload_n C 0 dX0_dumpFromNowOn_5 rfl ?_
  refine v_iconst (v := 0) C dX0_dumpFromNowOn_6 (by decide) ?_
  refine v_pI C 0 a 9 109 (C_m C (u_0 a hi_a)) k_0 ty_0 (by decide) rfl ⟨rfl, rfl⟩ x_291 (by decide) (by decide) dX0_dumpFromNowOn_7 ?_
  exact v_vret C dX0_dumpFromNowOn_10 (congr (congrArg Prod.mk rfl) rfl)
abbrev P_X0_partBehind (w : Wi) (z : Wj) (a : Nat) (ce : Int32) (ti : Int32) : WW → Prop := fun u_ => u_ = ((wS (wS w 107 a (fun _ => ce)) 108 a (fun _ => ti)), z)
set_option maxHeartbeats 4000000 in
set_option maxRecDepth 100000 in
theorem c_X0_partBehind (E : En) (hE : q_ok E) (w : Wi) (z : Wj) (a : Nat) (hi_a : a < 4) (ce : Int32) (ti : Int32) : CtV M_X0_partBehind E [.ref (E.ad 0 a), .int ce, .int ti] w z (P_X0_partBehind w z a ce ti) := by
  refine ctV_of (lv := [(0, .ref (E.ad 0 a)), (1, .int ce), (2, .int ti)]) hE m_X0_partBehind (Nat.le_of_ble_eq_true rfl) rfl ?_
  intro K A C0
  have C : Cx K E A cX0_partBehind 3 RX0 none { frames := 0, cells := 0, slots := 0, locals := 0 } := C0
  clear C0
  refine v_aload_n C 0 dX0_partBehind_0 rfl ?_
  refine v_iload_n C 1 dX0_partBehind_1 rfl ?_
  refine v_pI C 0 a 7 107 (C_m C (u_0 a hi_a)) k_0 ty_0 (by decide) rfl ⟨rfl, rfl⟩ x_289 rfl rfl dX0_partBehind_2 ?_
  refine v_aload_n C 0 dX0_partBehind_5 rfl ?_
  refine v_iload_n C 2 dX0_partBehind_6 rfl ?_
  refine v_pI C 0 a 8 108 (C_m C (u_0 a hi_a)) k_0 ty_0 (by decide) rfl ⟨rfl, rfl⟩ x_290 rfl rfl dX0_partBehind_7 ?_
  exact v_vret C dX0_partBehind_10 (congr (congrArg Prod.mk rfl) rfl)
abbrev P_X0_measure (w : Wi) (z : Wj) (a : Nat) (ce : Int32) (wh : Int32) : Int32 → WW → Prop := fun r_ u_ => r_ = (if 0 ≤ ce ∧ ce < 17 then (if wh = 0 then (w 13 a) (ce).toNatClampNeg else if wh = 1 then (w 15 a) (ce).toNatClampNeg else (w 16 a) (ce).toNatClampNeg) else (-1)) ∧ u_ = (w, z)
set_option maxHeartbeats 4000000 in
set_option maxRecDepth 100000 in
theorem c_X0_measure (E : En) (hE : q_ok E) (w : Wi) (z : Wj) (a : Nat) (hi_a : a < 4) (ce : Int32) (wh : Int32) : CtI M_X0_measure E [.ref (E.ad 0 a), .int ce, .int wh] w z (P_X0_measure w z a ce wh) := by
  refine ctI_of (lv := [(0, .ref (E.ad 0 a)), (1, .int ce), (2, .int wh)]) hE m_X0_measure (Nat.le_of_ble_eq_true rfl) rfl ?_
  intro K A C0
  have C : Cx K E A cX0_measure 3 RX0 (some .int) { frames := 0, cells := 0, slots := 0, locals := 0 } := C0
  clear C0
  refine v_iload_n C 1 dX0_measure_0 rfl ?_
  refine v_if_lt C 10 dX0_measure_1 (by decide) (fun c_1 => ?_) (fun c_1 => ?_)
  · refine v_iconst (v := (-1)) C dX0_measure_10 (by decide) ?_
    exact v_iret C dX0_measure_11 ⟨(by clear C; grind), (congr (congrArg Prod.mk rfl) rfl)⟩
  · refine v_iload_n C 1 dX0_measure_4 rfl ?_
    refine v_bipush (v := 17) C dX0_measure_5 (by decide) ?_
    refine v_ic_lt C 12 dX0_measure_7 (by decide) (fun c_7 => ?_) (fun c_7 => ?_)
    · refine v_iload_n C 2 dX0_measure_12 rfl ?_
      refine v_if_ne C 25 dX0_measure_13 (by decide) (fun c_13 => ?_) (fun c_13 => ?_)
      · refine v_iload_n C 2 dX0_measure_25 rfl ?_
        refine v_iconst (v := 1) C dX0_measure_26 (by decide) ?_
        refine v_ic_ne C 39 dX0_measure_27 (by decide) (fun c_27 => ?_) (fun c_27 => ?_)
        · refine v_aload_n C 0 dX0_measure_39 rfl ?_
          refine v_gR C 0 a 3 16 a (C_m C (u_0 a hi_a)) k_0 (by decide) x_284 (fun _ _ _ => rfl) dX0_measure_40 ?_
          refine v_iload_n C 1 dX0_measure_43 rfl ?_
          refine v_iald C 16 a (C_m C (u_16 a hi_a)) ⟨by decide, rfl, rfl⟩ (v_in (N := 17) (by decide) (by clear C; grind) (by clear C; grind)) dX0_measure_44 ?_
          exact v_iret C dX0_measure_45 ⟨(by clear C; grind), (congr (congrArg Prod.mk rfl) rfl)⟩
        · refine v_aload_n C 0 dX0_measure_30 rfl ?_
          refine v_gR C 0 a 2 15 a (C_m C (u_0 a hi_a)) k_0 (by decide) x_283 (fun _ _ _ => rfl) dX0_measure_31 ?_
          refine v_iload_n C 1 dX0_measure_34 rfl ?_
          refine v_iald C 15 a (C_m C (u_15 a hi_a)) ⟨by decide, rfl, rfl⟩ (v_in (N := 17) (by decide) (by clear C; grind) (by clear C; grind)) dX0_measure_35 ?_
          refine v_goto C 45 dX0_measure_36 (by decide) ?_
          exact v_iret C dX0_measure_45 ⟨(by clear C; grind), (congr (congrArg Prod.mk rfl) rfl)⟩
      · refine v_aload_n C 0 dX0_measure_16 rfl ?_
        refine v_gR C 0 a 0 13 a (C_m C (u_0 a hi_a)) k_0 (by decide) x_281 (fun _ _ _ => rfl) dX0_measure_17 ?_
        refine v_iload_n C 1 dX0_measure_20 rfl ?_
        refine v_iald C 13 a (C_m C (u_13 a hi_a)) ⟨by decide, rfl, rfl⟩ (v_in (N := 17) (by decide) (by clear C; grind) (by clear C; grind)) dX0_measure_21 ?_
        refine v_goto C 45 dX0_measure_22 (by decide) ?_
        exact v_iret C dX0_measure_45 ⟨(by clear C; grind), (congr (congrArg Prod.mk rfl) rfl)⟩
    · refine v_iconst (v := (-1)) C dX0_measure_10 (by decide) ?_
      exact v_iret C dX0_measure_11 ⟨(by clear C; grind), (congr (congrArg Prod.mk rfl) rfl)⟩
abbrev P_X0_anyHears (w : Wi) (z : Wj) (a : Nat) (r : Nat) : Int32 → WW → Prop := fun r_ u_ => r_ = (anyR (w 16 a) ((w 500 r 0) + 1).toNatClampNeg) ∧ u_ = (w, z)
set_option maxHeartbeats 4000000 in
set_option maxRecDepth 100000 in
theorem c_X0_anyHears (E : En) (hE : q_ok E) (w : Wi) (z : Wj) (a : Nat) (hi_a : a < 4) (r : Nat) (hi_r : r < 4) (h1 : 0 ≤ (w 500 r 0)) (h2 : (w 500 r 0) ≤ 16) : CtI M_X0_anyHears E [.ref (E.ad 0 a), .ref (E.ad 5 r)] w z (P_X0_anyHears w z a r) := by
  refine ctI_of (lv := [(0, .ref (E.ad 0 a)), (1, .ref (E.ad 5 r))]) hE m_X0_anyHears (Nat.le_of_ble_eq_true rfl) rfl ?_
  intro K A C0
  have C : Cx K E A cX0_anyHears 3 RX0 (some .boolean) { frames := 0, cells := 0, slots := 0, locals := 0 } := C0
  clear C0
  refine v_iconst (v := 1) C dX0_anyHears_0 (by decide) ?_
  refine v_istore_n (lv2 := [(2, .int 1), (0, .ref (E.ad 0 a)), (1, .ref (E.ad 5 r))]) C dX0_anyHears_1 rfl (by decide) rfl ?_
  have hL2 : ∀ (n_ : Nat) (i : Int32), (17 - i).toNatClampNeg < n_ → (1 ≤ i ∧ i ≤ (w 500 r 0) + 1 ∧ anyR (w 16 a) i.toNatClampNeg = 0) → V K E A 3 (QI K E A (P_X0_anyHears w z a r)) 2 [(2, .int i), (0, .ref (E.ad 0 a)), (1, .ref (E.ad 5 r))] [] w z := by
    intro n_
    induction n_ with
    | zero => intro i hm_; exact absurd hm_ (Nat.not_lt_zero _)
    | succ n_ ih_2 =>
      intro i hm_ hinv
      obtain ⟨g1, g2, g3⟩ := hinv
      refine v_iload_n C 0 dX0_anyHears_2 rfl ?_
      refine v_aload_n C 2 dX0_anyHears_3 rfl ?_
      refine v_gI C 5 r 0 500 (w 500 r 0) (C_m C (u_5 r hi_r)) k_5 (by decide) rfl rfl x_171 rfl dX0_anyHears_4 ?_
      refine v_ic_gt C 33 dX0_anyHears_7 (by decide) (fun c_7 => ?_) (fun c_7 => ?_)
      · refine v_iconst (v := 0) C dX0_anyHears_33 (by decide) ?_
        exact v_zret C dX0_anyHears_34 (by decide) ⟨(by clear C ih_2; rw [show (w 500 r 0) + 1 = i by grind]; exact g3.symm), (congr (congrArg Prod.mk rfl) rfl)⟩
      · refine v_iload_n C 0 dX0_anyHears_10 rfl ?_
        refine v_bipush (v := 17) C dX0_anyHears_11 (by decide) ?_
        refine v_ic_ge C 33 dX0_anyHears_13 (by decide) (fun c_13 => absurd c_13 (by clear C ih_2; grind)) (fun c_13 => ?_)
        refine v_aload_n C 1 dX0_anyHears_16 rfl ?_
        refine v_gR C 0 a 3 16 a (C_m C (u_0 a hi_a)) k_0 (by decide) x_284 (fun _ _ _ => rfl) dX0_anyHears_17 ?_
        refine v_iload_n C 0 dX0_anyHears_20 rfl ?_
        refine v_iald C 16 a (C_m C (u_16 a hi_a)) ⟨by decide, rfl, rfl⟩ (v_in (N := 17) (by decide) (by clear C ih_2; grind) (by clear C ih_2; grind)) dX0_anyHears_21 ?_
        refine v_if_le C 27 dX0_anyHears_22 (by decide) (fun c_22 => ?_) (fun c_22 => ?_)
        · refine v_iinc (v := i + 1) (lv2 := [(2, .int (i + 1)), (0, .ref (E.ad 0 a)), (1, .ref (E.ad 5 r))]) C 0 dX0_anyHears_27 rfl rfl (by decide) rfl ?_
          refine v_goto C 2 dX0_anyHears_30 (by decide) ?_
          exact ih_2 (i + 1) (by clear C ih_2; exact Nat.lt_of_lt_of_le (m_up (by grind) (by grind)) (Nat.le_of_lt_succ hm_)) (by clear C ih_2; exact ⟨by grind, by grind, by rw [cl_succ (by grind) (by grind), anyR_n (by grind)]; exact g3⟩)
        · refine v_iconst (v := 1) C dX0_anyHears_25 (by decide) ?_
          exact v_zret C dX0_anyHears_26 (by decide) ⟨(by clear C ih_2; exact (anyR_t (cl_pos g1) (by grind) ((cl_lt (by grind) (by grind)).mpr (by grind))).symm), (congr (congrArg Prod.mk rfl) rfl)⟩
  exact hL2 _ 1 (Nat.lt_succ_self _) (by clear C hL2; exact ⟨by decide, by grind, rfl⟩)
abbrev P_X0_hotSet (w : Wi) (z : Wj) (a : Nat) (r : Nat) : Int32 → WW → Prop := fun r_ u_ => r_ = (hotR (w 16 a) ((w 500 r 0) + 1).toNatClampNeg) ∧ u_ = (w, z)
set_option maxHeartbeats 4000000 in
set_option maxRecDepth 100000 in
theorem c_X0_hotSet (E : En) (hE : q_ok E) (w : Wi) (z : Wj) (a : Nat) (hi_a : a < 4) (r : Nat) (hi_r : r < 4) (h1 : 0 ≤ (w 500 r 0)) (h2 : (w 500 r 0) ≤ 16) : CtI M_X0_hotSet E [.ref (E.ad 0 a), .ref (E.ad 5 r)] w z (P_X0_hotSet w z a r) := by
  refine ctI_of (lv := [(0, .ref (E.ad 0 a)), (1, .ref (E.ad 5 r))]) hE m_X0_hotSet (Nat.le_of_ble_eq_true rfl) rfl ?_
  intro K A C0
  have C : Cx K E A cX0_hotSet 4 RX0 (some .int) { frames := 0, cells := 0, slots := 0, locals := 0 } := C0
  clear C0
  refine v_iconst (v := 0) C dX0_hotSet_0 (by decide) ?_
  refine v_istore_n (lv2 := [(2, .int 0), (0, .ref (E.ad 0 a)), (1, .ref (E.ad 5 r))]) C dX0_hotSet_1 rfl (by decide) rfl ?_
  refine v_iconst (v := 1) C dX0_hotSet_2 (by decide) ?_
  refine v_istore_n (lv2 := [(3, .int 1), (2, .int 0), (0, .ref (E.ad 0 a)), (1, .ref (E.ad 5 r))]) C dX0_hotSet_3 rfl (by decide) rfl ?_
  have hL4 : ∀ (n_ : Nat) (s : Int32) (i : Int32), (17 - i).toNatClampNeg < n_ → (1 ≤ i ∧ i ≤ (w 500 r 0) + 1 ∧ s = hotR (w 16 a) i.toNatClampNeg) → V K E A 4 (QI K E A (P_X0_hotSet w z a r)) 4 [(3, .int i), (2, .int s), (0, .ref (E.ad 0 a)), (1, .ref (E.ad 5 r))] [] w z := by
    intro n_
    induction n_ with
    | zero => intro s i hm_; exact absurd hm_ (Nat.not_lt_zero _)
    | succ n_ ih_4 =>
      intro s i hm_ hinv
      obtain ⟨g1, g2, g3⟩ := hinv
      refine v_iload_n C 0 dX0_hotSet_4 rfl ?_
      refine v_aload_n C 3 dX0_hotSet_5 rfl ?_
      refine v_gI C 5 r 0 500 (w 500 r 0) (C_m C (u_5 r hi_r)) k_5 (by decide) rfl rfl x_171 rfl dX0_hotSet_6 ?_
      refine v_ic_gt C 43 dX0_hotSet_9 (by decide) (fun c_9 => ?_) (fun c_9 => ?_)
      · refine v_iload_n C 1 dX0_hotSet_43 rfl ?_
        exact v_iret C dX0_hotSet_44 ⟨(by clear C ih_4; rw [show (w 500 r 0) + 1 = i by grind]; exact g3), (congr (congrArg Prod.mk rfl) rfl)⟩
      · refine v_iload_n C 0 dX0_hotSet_12 rfl ?_
        refine v_bipush (v := 17) C dX0_hotSet_13 (by decide) ?_
        refine v_ic_ge C 43 dX0_hotSet_15 (by decide) (fun c_15 => absurd c_15 (by clear C ih_4; grind)) (fun c_15 => ?_)
        refine v_aload_n C 2 dX0_hotSet_18 rfl ?_
        refine v_gR C 0 a 3 16 a (C_m C (u_0 a hi_a)) k_0 (by decide) x_284 (fun _ _ _ => rfl) dX0_hotSet_19 ?_
        refine v_iload_n C 0 dX0_hotSet_22 rfl ?_
        refine v_iald C 16 a (C_m C (u_16 a hi_a)) ⟨by decide, rfl, rfl⟩ (v_in (N := 17) (by decide) (by clear C ih_4; grind) (by clear C ih_4; grind)) dX0_hotSet_23 ?_
        refine v_bipush (v := 100) C dX0_hotSet_24 (by decide) ?_
        refine v_ic_lt C 37 dX0_hotSet_26 (by decide) (fun c_26 => ?_) (fun c_26 => ?_)
        · refine v_iinc (v := i + 1) (lv2 := [(3, .int (i + 1)), (2, .int s), (0, .ref (E.ad 0 a)), (1, .ref (E.ad 5 r))]) C 0 dX0_hotSet_37 rfl rfl (by decide) rfl ?_
          refine v_goto C 4 dX0_hotSet_40 (by decide) ?_
          exact ih_4 s (i + 1) (by clear C ih_4; exact Nat.lt_of_lt_of_le (m_up (by grind) (by grind)) (Nat.le_of_lt_succ hm_)) (by clear C ih_4; exact ⟨by grind, by grind, by rw [cl_succ (by grind) (by grind), hotR_s g1]; grind⟩)
        · refine v_iload_n C 1 dX0_hotSet_29 rfl ?_
          refine v_iconst (v := 1) C dX0_hotSet_30 (by decide) ?_
          refine v_iload_n C 0 dX0_hotSet_31 rfl ?_
          refine v_iconst (v := 1) C dX0_hotSet_32 (by decide) ?_
          refine v_isub C dX0_hotSet_33 ?_
          refine v_ishl C dX0_hotSet_34 ?_
          refine v_ior C dX0_hotSet_35 ?_
          refine v_istore_n (lv2 := [(2, .int (s ||| (1 <<< ((i - 1) &&& 31)))), (3, .int i), (0, .ref (E.ad 0 a)), (1, .ref (E.ad 5 r))]) C dX0_hotSet_36 rfl (by decide) rfl ?_
          refine v_iinc (v := i + 1) (lv2 := [(3, .int (i + 1)), (2, .int (s ||| (1 <<< ((i - 1) &&& 31)))), (0, .ref (E.ad 0 a)), (1, .ref (E.ad 5 r))]) C 1 dX0_hotSet_37 rfl rfl (by decide) rfl ?_
          refine v_goto C 4 dX0_hotSet_40 (by decide) ?_
          exact ih_4 (s ||| (1 <<< ((i - 1) &&& 31))) (i + 1) (by clear C ih_4; exact Nat.lt_of_lt_of_le (m_up (by grind) (by grind)) (Nat.le_of_lt_succ hm_)) (by clear C ih_4; exact ⟨by grind, by grind, by rw [cl_succ (by grind) (by grind), hotR_s g1]; grind⟩)
  exact hL4 _ 0 1 (Nat.lt_succ_self _) (by clear C hL4; exact ⟨by decide, by grind, rfl⟩)
