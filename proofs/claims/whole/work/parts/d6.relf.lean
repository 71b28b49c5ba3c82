theorem c_X11_orderQ (E : En) (hE : q_ok E) (w : Wi) (z : Wj) (g : Int32) (sp : Int32) (sn : Int32) (wh : Int32) (h1 : 1 ≤ (w 500 0 0)) (h3 : ¬ irF g sp sn = 0 → ∀ o, pm (w 500 0 0) o → (fun o lim => runV lim (layK ((w 500 0 0), (w 501 0 0), (w 502 0 0), (w 30 0), (w 32 0), (w 33 0), (w 34 0), (w 35 0), (w 36 0)) o) (layR (fun _ => 0) (w 31 0) o ((w 500 0 0)).toNatClampNeg) ((w 420 0 0), (w 421 0 0), (w 27 0), (w 28 0), (w 29 0)) g sp sn) o NOL = (-1) ∨ 0 ≤ (fun o lim => runV lim (layK ((w 500 0 0), (w 501 0 0), (w 502 0 0), (w 30 0), (w 32 0), (w 33 0), (w 34 0), (w 35 0), (w 36 0)) o) (layR (fun _ => 0) (w 31 0) o ((w 500 0 0)).toNatClampNeg) ((w 420 0 0), (w 421 0 0), (w 27 0), (w 28 0), (w 29 0)) g sp sn) o NOL) : CtI M_X11_order E [.ref (E.ad 11 0), .int g, .int sp, .int sn, .int wh] w z (P_X11_order w z g sp sn wh) := by
  refine ctI_of (lv := [(0, .ref (E.ad 11 0)), (1, .int g), (2, .int sp), (3, .int sn), (4, .int wh)]) hE m_X11_order (Nat.le_of_ble_eq_true rfl) rfl ?_
  intro K A C0
  have C : Cx K E A cX11_order 6 RX11 (some .int) { frames := 6, cells := 0, slots := 0, locals := 144 } := C0
  clear C0
  have hL28 : ∀ (td : Int32), (td = (if (wh = 0 ∨ wh = 1) ∧ (w 500 0 0) ≤ 6 then 1 else 0)) → V K E A 6 (QI K E A (P_X11_order w z g sp sn wh)) 28 [(0, .ref (E.ad 11 0)), (1, .int g), (2, .int sp), (3, .int sn), (4, .int wh)] [.int td] w z := by
    intro td hinv
    have et := hinv
    refine v_istore (lv2 := [(5, .int td), (0, .ref (E.ad 11 0)), (1, .int g), (2, .int sp), (3, .int sn), (4, .int wh)]) C dX11_order_28 (by decide) rfl ?_
    refine v_iload C 0 dX11_order_30 rfl ?_
    refine v_if_eq C 44 dX11_order_32 (by decide) (fun c_32 => ?_) (fun c_32 => ?_)
    · refine v_bipush (v := (-2)) C dX11_order_44 (by decide) ?_
      refine v_tS C 909 0 (by decide) ?_
      refine v_w (w2 := (wS w 909 0 (fun _ => (w 909 0 0)))) (by simp only [wS_s, wS_t, wS_a, ne_eq, Nat.reduceEqDiff, not_false_eq_true, wS_wS, wS_p, wS_pp, Nat.reduceLT, id_eq]) ?_
      exact v_iret C dX11_order_46 ⟨_, (by clear C; rw [if_pos (by clear h3; grind)]), (congr (congrArg Prod.mk ((kp_e (kp_add (e := (fun _ => (w 909 0 0))) (by simp only [wS_s, wS_t, wS_a, ne_eq, Nat.reduceEqDiff, not_false_eq_true]) (kp_add (e := (w 39 0)) (by simp only [wS_s, wS_t, wS_a, ne_eq, Nat.reduceEqDiff, not_false_eq_true]) (kp_S (by decide) kp_r)))).trans (congrArg (fun c_ => wB c_ SCO _) (wS_eq (wS_eq rfl (by clear C; rw [if_pos (by clear h3; grind)])) (fu_eq (by clear C; rw [if_pos (by clear h3; grind)])))))) rfl)⟩
    · refine v_iload_n C 2 dX11_order_35 rfl ?_
      refine v_iload_n C 3 dX11_order_36 rfl ?_
      refine v_iload_n C 4 dX11_order_37 rfl ?_
      refine v_sI C [.int g, .int sp, .int sn] 3 (c_X11_isRun E hE _ _  g sp sn  ) m_X11_isRun x_842 x_843 p_X11_isRun rfl ⟨Nat.le_of_ble_eq_true rfl, Nat.le_of_ble_eq_true rfl⟩ rfl (Nat.le_of_ble_eq_true rfl) dX11_order_38 (fun r1 u1 v1 hp1 => ?_)
      obtain ⟨hr1, hu1⟩ := hp1
      subst hr1
      cases hu1
      refine v_if_ne C 47 dX11_order_41 (by decide) (fun c_41 => ?_) (fun c_41 => ?_)
      · have h3 := h3 c_41
        refine v_aload_n C 1 dX11_order_47 rfl ?_
        refine v_gR C 11 0 8 10 0 (C_m C (u_11 0 (by decide))) k_11 (by decide) x_508 (fun _ _ _ => rfl) dX11_order_48 ?_
        refine v_iload_n C 2 dX11_order_51 rfl ?_
        refine v_iload_n C 3 dX11_order_52 rfl ?_
        refine v_iload_n C 4 dX11_order_53 rfl ?_
        refine v_vV C 10 0 [.int g, .int sp, .int sn] 3 (c_X10_tell E hE _ _  g sp sn  ) m_X10_tell x_884 x_885 x_886 p_X10_tell rfl ⟨Nat.le_of_ble_eq_true rfl, Nat.le_of_ble_eq_true rfl⟩ (C_m C (u_10 0 (by decide))) k_10 rfl (Nat.le_of_ble_eq_true rfl) dX11_order_54 (fun u2 v2 hp2 => ?_)
        have hu2 := hp2
        cases hu2
        refine v_iload C 5 dX11_order_57 rfl ?_
        refine v_if_ne C 72 dX11_order_59 (by decide) (fun c_59 => ?_) (fun c_59 => ?_)
        · refine v_aload_n C 1 dX11_order_72 rfl ?_
          refine v_gR C 11 0 8 10 0 (C_m C (u_11 0 (by decide))) k_11 (by decide) x_508 (fun _ _ _ => rfl) dX11_order_73 ?_
          refine v_vI C 10 0 [] 0 (c_X10_greatestOrder E hE _ _    (by clear C; (try simp only [wS_s, wS_t, wS_a, ne_eq, Nat.reduceEqDiff, not_false_eq_true]); assumption) (by clear C; (try simp only [wS_s, wS_t, wS_a, ne_eq, Nat.reduceEqDiff, not_false_eq_true]); clear h3; grind) (by clear C; (try simp only [wS_s, wS_t, wS_a, ne_eq, Nat.reduceEqDiff, not_false_eq_true]); exact h3)) m_X10_greatestOrder x_960 x_961 x_962 p_X10_greatestOrder rfl ⟨Nat.le_of_ble_eq_true rfl, Nat.le_of_ble_eq_true rfl⟩ (C_m C (u_10 0 (by decide))) k_10 rfl (Nat.le_of_ble_eq_true rfl) dX11_order_76 (fun r3 u3 v3 hp3 => ?_)
          obtain ⟨uh3, hr3, hu3⟩ := hp3
          subst hr3
          cases hu3
          refine v_i (y := (grtR (fun o lim => runV lim (layK ((w 500 0 0), (w 501 0 0), (w 502 0 0), (w 30 0), (w 32 0), (w 33 0), (w 34 0), (w 35 0), (w 36 0)) o) (layR (fun _ => 0) (w 31 0) o ((w 500 0 0)).toNatClampNeg) ((w 420 0 0), (w 421 0 0), (w 27 0), (w 28 0), (w 29 0)) g sp sn) ((w 500 0 0)).toNatClampNeg 720 (ordR (w 38 0) 6) (-1) (w 39 0)).1) (by simp only [wS_s, wS_t, wS_a, ne_eq, Nat.reduceEqDiff, not_false_eq_true]) ?_
          refine v_w (w2 := (wB (wS (wS (wS (wS (wS w 39 0 ((grtR (fun o lim => runV lim (layK ((w 500 0 0), (w 501 0 0), (w 502 0 0), (w 30 0), (w 32 0), (w 33 0), (w 34 0), (w 35 0), (w 36 0)) o) (layR (fun _ => 0) (w 31 0) o ((w 500 0 0)).toNatClampNeg) ((w 420 0 0), (w 421 0 0), (w 27 0), (w 28 0), (w 29 0)) g sp sn) ((w 500 0 0)).toNatClampNeg 720 (ordR (w 38 0) 6) (-1) (w 39 0)).2)) 909 0 (fun _ => (w 500 0 0))) 911 0 (fun _ => g)) 912 0 (fun _ => sp)) 913 0 (fun _ => sn)) SC2 uh3)) (by simp (decide := true) only [wB_o, wB_i, wS_s, wS_t, wS_a, ne_eq, Nat.reduceEqDiff, not_false_eq_true, wS_wS, wS_p, wS_pp, Nat.reduceLT, id_eq]) ?_
          exact v_iret C dX11_order_79 ⟨_, (by clear C; rw [if_neg (by clear h3; grind)]; first | rw [if_pos (by assumption)] | rw [if_neg (by assumption)]), (congr (congrArg Prod.mk ((kp_e (kp_add (e := (fun _ => (w 500 0 0))) (by simp (decide := true) only [wB_o, wB_i, wS_s, wS_t, wS_a, ne_eq, Nat.reduceEqDiff, not_false_eq_true]) (kp_add (e := ((grtR (fun o lim => runV lim (layK ((w 500 0 0), (w 501 0 0), (w 502 0 0), (w 30 0), (w 32 0), (w 33 0), (w 34 0), (w 35 0), (w 36 0)) o) (layR (fun _ => 0) (w 31 0) o ((w 500 0 0)).toNatClampNeg) ((w 420 0 0), (w 421 0 0), (w 27 0), (w 28 0), (w 29 0)) g sp sn) ((w 500 0 0)).toNatClampNeg 720 (ordR (w 38 0) 6) (-1) (w 39 0)).2)) (by simp (decide := true) only [wB_o, wB_i, wS_s, wS_t, wS_a, ne_eq, Nat.reduceEqDiff, not_false_eq_true]) (kp_B (by decide) (kp_S (by decide) (kp_S (by decide) (kp_S (by decide) (kp_S (by decide) (kp_S (by decide) kp_r))))))))).trans (congrArg (fun c_ => wB c_ SCO _) (wS_eq (wS_eq rfl (by clear C; rw [if_neg (by clear h3; grind)]; first | rw [if_pos (by assumption)] | rw [if_neg (by assumption)])) (fu_eq (by clear C; rw [if_neg (by clear h3; grind)]; first | rw [if_pos (by assumption)] | rw [if_neg (by assumption)])))))) rfl)⟩
        · refine v_aload_n C 1 dX11_order_62 rfl ?_
          refine v_gR C 11 0 8 10 0 (C_m C (u_11 0 (by decide))) k_11 (by decide) x_508 (fun _ _ _ => rfl) dX11_order_63 ?_
          refine v_vI C 10 0 [] 0 (c_X10_leastOrder E hE _ _    (by clear C; (try simp only [wS_s, wS_t, wS_a, ne_eq, Nat.reduceEqDiff, not_false_eq_true]); assumption) (by clear C; (try simp only [wS_s, wS_t, wS_a, ne_eq, Nat.reduceEqDiff, not_false_eq_true]); clear h3; grind)) m_X10_leastOrder x_928 x_929 x_930 p_X10_leastOrder rfl ⟨Nat.le_of_ble_eq_true rfl, Nat.le_of_ble_eq_true rfl⟩ (C_m C (u_10 0 (by decide))) k_10 rfl (Nat.le_of_ble_eq_true rfl) dX11_order_66 (fun r4 u4 v4 hp4 => ?_)
          obtain ⟨uh4, hr4, hu4⟩ := hp4
          subst hr4
          cases hu4
          refine v_i (y := (lstR (fun o lim => runV lim (layK ((w 500 0 0), (w 501 0 0), (w 502 0 0), (w 30 0), (w 32 0), (w 33 0), (w 34 0), (w 35 0), (w 36 0)) o) (layR (fun _ => 0) (w 31 0) o ((w 500 0 0)).toNatClampNeg) ((w 420 0 0), (w 421 0 0), (w 27 0), (w 28 0), (w 29 0)) g sp sn) ((w 500 0 0)).toNatClampNeg 720 (ordR (w 38 0) 6) (-1) (va_cpy (ordR (w 38 0) 6) (w 39 0) 0 0 6)).1) (by simp only [wS_s, wS_t, wS_a, ne_eq, Nat.reduceEqDiff, not_false_eq_true]) ?_
          refine v_w (w2 := (wB (wS (wS (wS (wS (wS w 39 0 ((lstR (fun o lim => runV lim (layK ((w 500 0 0), (w 501 0 0), (w 502 0 0), (w 30 0), (w 32 0), (w 33 0), (w 34 0), (w 35 0), (w 36 0)) o) (layR (fun _ => 0) (w 31 0) o ((w 500 0 0)).toNatClampNeg) ((w 420 0 0), (w 421 0 0), (w 27 0), (w 28 0), (w 29 0)) g sp sn) ((w 500 0 0)).toNatClampNeg 720 (ordR (w 38 0) 6) (-1) (va_cpy (ordR (w 38 0) 6) (w 39 0) 0 0 6)).2)) 909 0 (fun _ => (w 500 0 0))) 911 0 (fun _ => g)) 912 0 (fun _ => sp)) 913 0 (fun _ => sn)) SC2 uh4)) (by simp (decide := true) only [wB_o, wB_i, wS_s, wS_t, wS_a, ne_eq, Nat.reduceEqDiff, not_false_eq_true, wS_wS, wS_p, wS_pp, Nat.reduceLT, id_eq]) ?_
          refine v_goto C 79 dX11_order_69 (by decide) ?_
          exact v_iret C dX11_order_79 ⟨_, (by clear C; rw [if_neg (by clear h3; grind)]; first | rw [if_pos (by assumption)] | rw [if_neg (by assumption)]), (congr (congrArg Prod.mk ((kp_e (kp_add (e := (fun _ => (w 500 0 0))) (by simp (decide := true) only [wB_o, wB_i, wS_s, wS_t, wS_a, ne_eq, Nat.reduceEqDiff, not_false_eq_true]) (kp_add (e := ((lstR (fun o lim => runV lim (layK ((w 500 0 0), (w 501 0 0), (w 502 0 0), (w 30 0), (w 32 0), (w 33 0), (w 34 0), (w 35 0), (w 36 0)) o) (layR (fun _ => 0) (w 31 0) o ((w 500 0 0)).toNatClampNeg) ((w 420 0 0), (w 421 0 0), (w 27 0), (w 28 0), (w 29 0)) g sp sn) ((w 500 0 0)).toNatClampNeg 720 (ordR (w 38 0) 6) (-1) (va_cpy (ordR (w 38 0) 6) (w 39 0) 0 0 6)).2)) (by simp (decide := true) only [wB_o, wB_i, wS_s, wS_t, wS_a, ne_eq, Nat.reduceEqDiff, not_false_eq_true]) (kp_B (by decide) (kp_S (by decide) (kp_S (by decide) (kp_S (by decide) (kp_S (by decide) (kp_S (by decide) kp_r))))))))).trans (congrArg (fun c_ => wB c_ SCO _) (wS_eq (wS_eq rfl (by clear C; rw [if_neg (by clear h3; grind)]; first | rw [if_pos (by assumption)] | rw [if_neg (by assumption)])) (fu_eq (by clear C; rw [if_neg (by clear h3; grind)]; first | rw [if_pos (by assumption)] | rw [if_neg (by assumption)])))))) rfl)⟩
      · refine v_bipush (v := (-2)) C dX11_order_44 (by decide) ?_
        refine v_tS C 909 0 (by decide) ?_
        refine v_w (w2 := (wS w 909 0 (fun _ => (w 909 0 0)))) (by simp only [wS_s, wS_t, wS_a, ne_eq, Nat.reduceEqDiff, not_false_eq_true, wS_wS, wS_p, wS_pp, Nat.reduceLT, id_eq]) ?_
        exact v_iret C dX11_order_46 ⟨_, (by clear C; rw [if_pos (by clear h3; grind)]), (congr (congrArg Prod.mk ((kp_e (kp_add (e := (fun _ => (w 909 0 0))) (by simp only [wS_s, wS_t, wS_a, ne_eq, Nat.reduceEqDiff, not_false_eq_true]) (kp_add (e := (w 39 0)) (by simp only [wS_s, wS_t, wS_a, ne_eq, Nat.reduceEqDiff, not_false_eq_true]) (kp_S (by decide) kp_r)))).trans (congrArg (fun c_ => wB c_ SCO _) (wS_eq (wS_eq rfl (by clear C; rw [if_pos (by clear h3; grind)])) (fu_eq (by clear C; rw [if_pos (by clear h3; grind)])))))) rfl)⟩
  refine v_iload C 4 dX11_order_0 rfl ?_
  refine v_if_eq C 11 dX11_order_2 (by decide) (fun c_2 => ?_) (fun c_2 => ?_)
  · refine v_aload_n C 0 dX11_order_11 rfl ?_
    refine v_gR C 11 0 4 5 0 (C_m C (u_11 0 (by decide))) k_11 (by decide) x_504 (fun _ _ _ => rfl) dX11_order_12 ?_
    refine v_gI C 5 0 0 500 (w 500 0 0) (C_m C (u_5 0 (by decide))) k_5 (by decide) rfl rfl x_174 rfl dX11_order_15 ?_
    refine v_bipush (v := 6) C dX11_order_18 (by decide) ?_
    refine v_ic_gt C 27 dX11_order_20 (by decide) (fun c_20 => ?_) (fun c_20 => ?_)
    · refine v_iconst (v := 0) C dX11_order_27 (by decide) ?_
      exact hL28 0 (by clear C hL28; clear h3; grind)
    · refine v_iconst (v := 1) C dX11_order_23 (by decide) ?_
      refine v_goto C 28 dX11_order_24 (by decide) ?_
      exact hL28 1 (by clear C hL28; clear h3; grind)
  · refine v_iload C 4 dX11_order_5 rfl ?_
    refine v_iconst (v := 1) C dX11_order_7 (by decide) ?_
    refine v_ic_ne C 27 dX11_order_8 (by decide) (fun c_8 => ?_) (fun c_8 => ?_)
    · refine v_iconst (v := 0) C dX11_order_27 (by decide) ?_
      exact hL28 0 (by clear C hL28; clear h3; grind)
    · refine v_aload_n C 0 dX11_order_11 rfl ?_
      refine v_gR C 11 0 4 5 0 (C_m C (u_11 0 (by decide))) k_11 (by decide) x_504 (fun _ _ _ => rfl) dX11_order_12 ?_
      refine v_gI C 5 0 0 500 (w 500 0 0) (C_m C (u_5 0 (by decide))) k_5 (by decide) rfl rfl x_174 rfl dX11_order_15 ?_
      refine v_bipush (v := 6) C dX11_order_18 (by decide) ?_
      refine v_ic_gt C 27 dX11_order_20 (by decide) (fun c_20 => ?_) (fun c_20 => ?_)
      · refine v_iconst (v := 0) C dX11_order_27 (by decide) ?_
        exact hL28 0 (by clear C hL28; clear h3; grind)
      · refine v_iconst (v := 1) C dX11_order_23 (by decide) ?_
        refine v_goto C 28 dX11_order_24 (by decide) ?_
        exact hL28 1 (by clear C hL28; clear h3; grind)

set_option maxHeartbeats 2000000 in
theorem s_order (E : En) (hM : q_okM E) (w : Wi) (z : Wj) (g : Int32) (sp : Int32) (sn : Int32) (wh : Int32) (h : J w z) : Pr M_X11_order M_X12_order E [.int g, .int sp, .int sn, .int wh] w z := by
  obtain ⟨hT, hK, hL, hF, hR, hO, hG, hW, hB, hS⟩ := h
  obtain ⟨l1, l2, l3⟩ := lj_b hL
  obtain ⟨t1, t2, t3, t4⟩ := hT
  obtain ⟨kR, kB, kS, kW, kw, ka, kn⟩ := jk_all hK
  have kn1 : 1 ≤ w 1074 0 0 ∧ w 1074 0 0 ≤ 16 := hK.2.1
  have ki := hK.2.2.2.2.1
  have ke : w 500 0 0 = w 1074 0 0 := hK.1.1
  have hwg : ∀ o : Row, (∀ k, k < (w 1074 0 0).toNatClampNeg → 0 ≤ o k ∧ o k < w 1074 0 0) → wgR (L7 (w 42 0) (w 1080 0 0)) o (w 1074 0 0).toNatClampNeg ≠ 0 := by
    intro o ho z
    have en : nI (w 1074 0 0).toNatClampNeg = w 1074 0 0 := nI_cl (by grind)
    have := wg_b kn1.1 kn1.2 hK.2.2.2.2.2.2.1 (p := o) (fun k hk => by rw [en]; exact ho k hk)
    rw [z] at this
    exact absurd this.1 (by decide)
  refine ⟨P_X11_order w z g sp sn wh, c_X11_orderQ E hM.1 w z g sp sn wh (by rw [ke]; exact kn1.1) (fun hi => by have k := kk_h3 hK hL hi; rw [← ke] at k; exact k), fun r W Z hp => ?_⟩
  obtain ⟨uh, hr, hu⟩ := hp
  cases hu
  refine ⟨P_X12_order _ _ g sp sn wh, c_X12_order E hM _ _ g sp sn wh (by (try simp (disch := decide) only [wS_s, wS_t, wB_o, RW, LW, MW]); exact kn1.1) (by (try simp (disch := decide) only [wS_s, wS_t, wB_o, RW, LW, MW]); exact kn1.2) (by (try simp (disch := decide) only [wS_s, wS_t, wB_o, RW, LW, MW]); exact ki) (by (try simp (disch := decide) only [wS_s, wS_t, wB_o, RW, LW, MW]); exact l2) (by (try simp (disch := decide) only [wS_s, wS_t, wB_o, RW, LW, MW]); exact l3) (by (try simp (disch := decide) only [wS_s, wS_t, wB_o, RW, LW, MW]); exact (fun o ho => hwg o ho)), fun r2 U Y hq => ?_⟩
  obtain ⟨uh2, hr2, hu2⟩ := hq
  cases hu2
  have hor : ¬ (irF g sp sn = 0 ∨ ¬ (0 ≤ wh ∧ wh ≤ 1) ∨ 6 < w 1074 0 0) → _ := fun q => by
    have q6 : w 1074 0 0 ≤ 6 := by clear hK hL hR kR kB kS kW kw ka kn hr hr2; grind
    have qi : ¬ irF g sp sn = 0 := fun z => q (Or.inl z)
    have qw : wh = 0 ∨ wh = 1 := by clear hK hL hR kR kB kS kW kw ka kn hr hr2; grind
    exact kk_or (n := (w 1074 0 0).toNatClampNeg) (n2 := (w 500 0 0).toNatClampNeg) (by rw [ke]) (by have := (cl_le (show (0 : Int32) ≤ 1 by decide) (by grind)).mpr kn1.1; exact this) (by have := (cl_le (by grind) (show (0 : Int32) ≤ 6 by decide)).mpr q6; exact this) (kk_vF hK hL qi) qw (w 38 0) (w 39 0) (w 57 0) (w 58 0)
  refine ⟨?_, J_mk ?_ ?_ ?_ ?_ ?_ ?_ ?_ ?_ ?_ ?_⟩
  · rw [hr, hr2]
    try simp (disch := decide) only [wS_s, wS_t, wB_o, RW, LW, MW]
    by_cases q : irF g sp sn = 0 ∨ ¬ (0 ≤ wh ∧ wh ≤ 1) ∨ 6 < w 1074 0 0
    · have q2 : ¬ ((wh = 0 ∨ wh = 1) ∧ w 500 0 0 ≤ 6) ∨ irF g sp sn = 0 := by rw [ke]; clear hK hL hR kR kB kS kW kw ka kn hr hr2; grind
      rw [if_pos q, if_pos q2]
    · have q2 : ¬ (¬ ((wh = 0 ∨ wh = 1) ∧ w 500 0 0 ≤ 6) ∨ irF g sp sn = 0) := by rw [ke]; clear hK hL hR kR kB kS kW kw ka kn hr hr2; grind
      rw [if_neg q, if_neg q2]
      exact (hor q).1
  · (try simp (disch := decide) only [wS_s, wS_t, wB_o, RW, LW, MW]); exact ⟨t1, t2, t3, t4⟩
  · (try simp (disch := decide) only [wS_s, wS_t, wB_o, RW, LW, MW]); exact jk_lay hK
  · (try simp (disch := decide) only [wS_s, wS_t, wB_o, RW, LW, MW]); exact hL
  · (try simp (disch := decide) only [wS_s, wS_t, wB_o, RW, LW, MW]); exact hF
  · (try simp (disch := decide) only [wS_s, wS_t, wB_o, RW, LW, MW]); exact hR
  · try simp (disch := decide) only [wS_s, wS_t, wB_o, RW, LW, MW]
    by_cases q : irF g sp sn = 0 ∨ ¬ (0 ≤ wh ∧ wh ≤ 1) ∨ 6 < w 1074 0 0
    · have q2 : ¬ ((wh = 0 ∨ wh = 1) ∧ w 500 0 0 ≤ 6) ∨ irF g sp sn = 0 := by rw [ke]; clear hK hL hR kR kB kS kW kw ka kn hr hr2; grind
      simp only [if_pos q, if_pos q2]
      exact hO
    · have q2 : ¬ (¬ ((wh = 0 ∨ wh = 1) ∧ w 500 0 0 ≤ 6) ∨ irF g sp sn = 0) := by rw [ke]; clear hK hL hR kR kB kS kW kw ka kn hr hr2; grind
      simp only [if_neg q, if_neg q2]
      refine ⟨?_, ⟨by grind, by clear hK hL hR kR kB kS kW kw ka kn hr hr2; grind⟩, (hor q).2⟩
      split
      · exact ke
      · exact ke
  · (try simp (disch := decide) only [wS_s, wS_t, wB_o, RW, LW, MW]); exact hG
  · (try simp (disch := decide) only [wS_s, wS_t, wB_o, RW, LW, MW]); exact hW
  · (try simp (disch := decide) only [wS_s, wS_t, wB_o, RW, LW, MW]); exact hB
  · (try simp (disch := decide) only [wS_s, wS_t, wB_o, RW, LW, MW]); exact hS
set_option maxHeartbeats 2000000 in
theorem s_fits (E : En) (hM : q_okM E) (w : Wi) (z : Wj) (off : Int32) (hot : Int32) (h : J w z) : Pr M_X11_fits M_X12_fits E [.int off, .int hot] w z := by
  obtain ⟨hT, hK, hL, hF, hR, hO, hG, hW, hB, hS⟩ := h
  obtain ⟨l1, l2, l3⟩ := lj_b hL
  obtain ⟨t1, t2, t3, t4⟩ := hT
  obtain ⟨kR, kB, kS, kW, kw, ka, kn⟩ := jk_all hK
  have kn1 : 1 ≤ w 1074 0 0 ∧ w 1074 0 0 ≤ 16 := hK.2.1
  have ki := hK.2.2.2.2.1
  have ke : w 500 0 0 = w 1074 0 0 := hK.1.1
  have qe : ((if w 661 0 0 - w 661 0 0 / 6 * 6 = 0 ∧ 1 ≤ w 661 0 0 / 6 ∧ w 661 0 0 / 6 ≤ 8 then gOk (w 37 0) (w 661 0 0 / 6).toNatClampNeg 0 else 0) ≠ 0 ∧ ((-1) ≤ hot ∧ hot < (1 : Int32) <<< (w 500 0 0 &&& 31)) ∧ 0 ≤ off ∧ off ≤ 99) ↔ ((if w 1062 0 0 - w 1062 0 0 / 6 * 6 = 0 ∧ 1 ≤ w 1062 0 0 / 6 ∧ w 1062 0 0 / 6 ≤ 8 then gOk (w 41 0) (w 1062 0 0 / 6).toNatClampNeg 0 else 0) ≠ 0 ∧ ((-1) ≤ hot ∧ hot < (1 : Int32) <<< (w 1074 0 0 &&& 31)) ∧ 0 ≤ off ∧ off ≤ 99) := by rw [t1, t2, ke]
  have qg : ((if w 1062 0 0 - w 1062 0 0 / 6 * 6 = 0 ∧ 1 ≤ w 1062 0 0 / 6 ∧ w 1062 0 0 / 6 ≤ 8 then gOk (w 41 0) (w 1062 0 0 / 6).toNatClampNeg 0 else 0) ≠ 0 ∧ ((-1) ≤ hot ∧ hot < (1 : Int32) <<< (w 1074 0 0 &&& 31)) ∧ 0 ≤ off ∧ off ≤ 99) → gOk (w 41 0) (w 1062 0 0 / 6).toNatClampNeg 0 ≠ 0 := by
    intro q
    by_cases c : w 1062 0 0 - w 1062 0 0 / 6 * 6 = 0 ∧ 1 ≤ w 1062 0 0 / 6 ∧ w 1062 0 0 / 6 ≤ 8
    · rw [if_pos c] at q; exact q.1
    · rw [if_neg c] at q; exact absurd rfl q.1
  refine ⟨P_X11_fits w z off hot, c_X11_fits E hM.1 w z off hot (by rw [t1]; exact t3.1) (by rw [t1]; exact t3.2) (by rw [ke]; grind) (by rw [ke]; exact kn1.2), fun r W Z hp => ?_⟩
  obtain ⟨uh, hr, hu⟩ := hp
  cases hu
  refine ⟨P_X12_fits _ _ off hot, c_X12_fits E hM _ _ off hot (by (try simp (disch := decide) only [wS_s, wS_t, wB_o, RW, LW, MW]); exact kn1.1) (by (try simp (disch := decide) only [wS_s, wS_t, wB_o, RW, LW, MW]); exact kn1.2) (by (try simp (disch := decide) only [wS_s, wS_t, wB_o, RW, LW, MW]); exact ki) (by (try simp (disch := decide) only [wS_s, wS_t, wB_o, RW, LW, MW]); exact l2) (by (try simp (disch := decide) only [wS_s, wS_t, wB_o, RW, LW, MW]); exact l3) (by (try simp (disch := decide) only [wS_s, wS_t, wB_o, RW, LW, MW]); exact ka) (by (try simp (disch := decide) only [wS_s, wS_t, wB_o, RW, LW, MW]); exact t3.1) (by (try simp (disch := decide) only [wS_s, wS_t, wB_o, RW, LW, MW]); exact t3.2), fun r2 U Y hq => ?_⟩
  obtain ⟨uh2, hr2, hu2⟩ := hq
  cases hu2
  refine ⟨?_, J_mk ?_ ?_ ?_ ?_ ?_ ?_ ?_ ?_ ?_ ?_⟩
  · rw [hr, hr2]
    try simp (disch := decide) only [wS_s, wS_t, wB_o, RW, LW, MW]
    by_cases q : (if w 1062 0 0 - w 1062 0 0 / 6 * 6 = 0 ∧ 1 ≤ w 1062 0 0 / 6 ∧ w 1062 0 0 / 6 ≤ 8 then gOk (w 41 0) (w 1062 0 0 / 6).toNatClampNeg 0 else 0) ≠ 0 ∧ ((-1) ≤ hot ∧ hot < (1 : Int32) <<< (w 1074 0 0 &&& 31)) ∧ 0 ≤ off ∧ off ≤ 99
    · rw [if_pos q, if_pos (qe.mpr q), t1, t2]
      exact ((kk_fit hK hL t4 (qg q) (w 24 0) (w 63 0)).1).symm
    · rw [if_neg q, if_neg (fun z => q (qe.mp z))]
  · (try simp (disch := decide) only [wS_s, wS_t, wB_o, RW, LW, MW]); exact ⟨rfl, t2, ⟨by decide, by decide⟩, t4⟩
  · (try simp (disch := decide) only [wS_s, wS_t, wB_o, RW, LW, MW]); exact jk_lay hK
  · (try simp (disch := decide) only [wS_s, wS_t, wB_o, RW, LW, MW]); exact hL
  · (try simp (disch := decide) only [wS_s, wS_t, wB_o, RW, LW, MW]); exact hF
  · (try simp (disch := decide) only [wS_s, wS_t, wB_o, RW, LW, MW]); exact hR
  · (try simp (disch := decide) only [wS_s, wS_t, wB_o, RW, LW, MW]); exact hO
  · try simp (disch := decide) only [wS_s, wS_t, wB_o, RW, LW, MW]
    by_cases q : (if w 1062 0 0 - w 1062 0 0 / 6 * 6 = 0 ∧ 1 ≤ w 1062 0 0 / 6 ∧ w 1062 0 0 / 6 ≤ 8 then gOk (w 41 0) (w 1062 0 0 / 6).toNatClampNeg 0 else 0) ≠ 0 ∧ ((-1) ≤ hot ∧ hot < (1 : Int32) <<< (w 1074 0 0 &&& 31)) ∧ 0 ≤ off ∧ off ≤ 99
    · simp only [if_pos q, if_pos (qe.mpr q)]
      rw [t1, t2]
      exact kk_fits hK hL t4 (qg q) (w 24 0) (w 63 0) 1 (by decide)
    · simp only [if_neg q, if_neg (fun z => q (qe.mp z))]
      exact hG
  · (try simp (disch := decide) only [wS_s, wS_t, wB_o, RW, LW, MW]); exact hW
  · (try simp (disch := decide) only [wS_s, wS_t, wB_o, RW, LW, MW]); exact hB
  · (try simp (disch := decide) only [wS_s, wS_t, wB_o, RW, LW, MW]); exact hS
set_option maxHeartbeats 2000000 in
theorem s_walks (E : En) (hM : q_okM E) (w : Wi) (z : Wj) (ti : Int32) (h : J w z) : Pr M_X11_walks M_X12_walks E [.int ti] w z := by
  obtain ⟨hT, hK, hL, hF, hR, hO, hG, hW, hB, hS⟩ := h
  obtain ⟨l1, l2, l3⟩ := lj_b hL
  obtain ⟨t1, t2, t3, t4⟩ := hT
  obtain ⟨kR, kB, kS, kW, kw, ka, kn⟩ := jk_all hK
  have kn1 : 1 ≤ w 1074 0 0 ∧ w 1074 0 0 ≤ 16 := hK.2.1
  have ki := hK.2.2.2.2.1
  have ke : w 500 0 0 = w 1074 0 0 := hK.1.1
  have hG0 := hG
  obtain ⟨g1, g2, g3, g4⟩ := hG0
  have qe : ((1 ≤ ti ∧ ti ≤ 400) ∧ 0 < w 271 0 0 ∧ w 271 0 0 = w 500 0 0) ↔ ((1 ≤ ti ∧ ti ≤ 400) ∧ ¬ w 1122 0 0 = 0 ∧ w 1121 0 0 = w 1074 0 0) := by
    rw [ke]
    clear hK hL hR kR kB kS kW kw ka kn hG g3
    rcases g4 with ⟨a, b, c⟩ | ⟨a, b, c, d⟩
    · constructor
      · intro z; exact absurd z.2.1 (by rw [b]; decide)
      · intro z; exact absurd a z.2.1
    · rw [b]
      constructor
      · intro z; exact ⟨z.1, a, z.2.2⟩
      · intro z; exact ⟨z.1, by grind, z.2.2⟩
  have f7 : w 271 0 0 = w 500 0 0 → ∀ k, k < (w 270 0 0).toNatClampNeg → (w 24 0) k = 0 ∨ 1 ≤ (w 24 0) k / 10 ∧ (w 24 0) k / 10 ≤ w 500 0 0 := by
    intro e k hk
    rw [g1] at hk
    rcases g4 with ⟨a, b, c⟩ | ⟨a, b, c, d⟩
    · rw [c] at hk; exact absurd hk (Nat.not_lt_zero _)
    · have := d k hk
      rw [← b, e] at this
      rw [g3 k hk]
      exact this.elim Or.inl (fun z => Or.inr z.1)
  have f8 : w 1121 0 0 = w 1074 0 0 → ∀ k, k < (w 1120 0 0).toNatClampNeg → (w 63 0) k = 0 ∨ (1 ≤ (w 63 0) k / 10 ∧ (w 63 0) k / 10 ≤ w 1074 0 0) ∧ 0 ≤ gm ((w 63 0) k) ∧ gm ((w 63 0) k) ≤ 6 := by
    intro e k hk
    rcases g4 with ⟨a, b, c⟩ | ⟨a, b, c, d⟩
    · rw [c] at hk; exact absurd hk (Nat.not_lt_zero _)
    · have := d k hk
      rw [e] at this
      exact this
  have hwk := fun (q : (1 ≤ ti ∧ ti ≤ 400) ∧ ¬ w 1122 0 0 = 0 ∧ w 1121 0 0 = w 1074 0 0) => kk_wk hK hL q.1 g1 g2 g3 (w 25 0) (w 26 0) (w 64 0)
  refine ⟨P_X11_walks w z ti, c_X11_walks E hM.1 w z ti (by rw [ke]; grind) (by rw [ke]; exact kn1.2) (by rw [g1]; exact g2.1) (by rw [g1]; exact g2.2) f7, fun r W Z hp => ?_⟩
  obtain ⟨uh, hr, hu⟩ := hp
  cases hu
  refine ⟨P_X12_walks _ _ ti, c_X12_walks E hM _ _ ti (by (try simp (disch := decide) only [wS_s, wS_t, wB_o, RW, LW, MW]); exact kn1.1) (by (try simp (disch := decide) only [wS_s, wS_t, wB_o, RW, LW, MW]); exact kn1.2) (by (try simp (disch := decide) only [wS_s, wS_t, wB_o, RW, LW, MW]); exact ki) (by (try simp (disch := decide) only [wS_s, wS_t, wB_o, RW, LW, MW]); exact l2) (by (try simp (disch := decide) only [wS_s, wS_t, wB_o, RW, LW, MW]); exact l3) (by (try simp (disch := decide) only [wS_s, wS_t, wB_o, RW, LW, MW]); exact ka) (by (try simp (disch := decide) only [wS_s, wS_t, wB_o, RW, LW, MW]); exact g2.1) (by (try simp (disch := decide) only [wS_s, wS_t, wB_o, RW, LW, MW]); exact g2.2) (by (try simp (disch := decide) only [wS_s, wS_t, wB_o, RW, LW, MW]); exact f8), fun r2 U Y hq => ?_⟩
  obtain ⟨uh2, hr2, hu2⟩ := hq
  cases hu2
  refine ⟨?_, J_mk ?_ ?_ ?_ ?_ ?_ ?_ ?_ ?_ ?_ ?_⟩
  · rw [hr, hr2]
    try simp (disch := decide) only [wS_s, wS_t, wB_o, RW, LW, MW]
    by_cases q : (1 ≤ ti ∧ ti ≤ 400) ∧ ¬ w 1122 0 0 = 0 ∧ w 1121 0 0 = w 1074 0 0
    · rw [if_pos q, if_pos (qe.mpr q)]
      exact (hwk q).2.1.symm
    · rw [if_neg q, if_neg (fun z => q (qe.mp z))]
  · (try simp (disch := decide) only [wS_s, wS_t, wB_o, RW, LW, MW]); exact ⟨t1, t2, t3, t4⟩
  · (try simp (disch := decide) only [wS_s, wS_t, wB_o, RW, LW, MW]); exact jk_lay hK
  · (try simp (disch := decide) only [wS_s, wS_t, wB_o, RW, LW, MW]); exact hL
  · (try simp (disch := decide) only [wS_s, wS_t, wB_o, RW, LW, MW]); exact hF
  · (try simp (disch := decide) only [wS_s, wS_t, wB_o, RW, LW, MW]); exact hR
  · (try simp (disch := decide) only [wS_s, wS_t, wB_o, RW, LW, MW]); exact hO
  · (try simp (disch := decide) only [wS_s, wS_t, wB_o, RW, LW, MW]); exact hG
  · try simp (disch := decide) only [wS_s, wS_t, wB_o, RW, LW, MW]
    by_cases q : (1 ≤ ti ∧ ti ≤ 400) ∧ ¬ w 1122 0 0 = 0 ∧ w 1121 0 0 = w 1074 0 0
    · simp only [if_pos q, if_pos (qe.mpr q)]
      exact ⟨rfl, (hwk q).1, (hwk q).2.2⟩
    · simp only [if_neg q, if_neg (fun z => q (qe.mp z))]
      exact hW
  · (try simp (disch := decide) only [wS_s, wS_t, wB_o, RW, LW, MW]); exact hB
  · (try simp (disch := decide) only [wS_s, wS_t, wB_o, RW, LW, MW]); exact hS
