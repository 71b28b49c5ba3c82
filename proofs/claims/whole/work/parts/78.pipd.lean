abbrev P_X11_order (w : Wi) (z : Wj) (g : Int32) (sp : Int32) (sn : Int32) (wh : Int32) : Int32 → WW → Prop := fun r_ u_ => ∃ (uh_ : Wi), r_ = (if ¬ ((wh = 0 ∨ wh = 1) ∧ (w 500 0 0) ≤ 6) ∨ irF g sp sn = 0 then (-2) else if wh = 0 then (lstR (fun o lim => runV lim (layK ((w 500 0 0), (w 501 0 0), (w 502 0 0), (w 30 0), (w 32 0), (w 33 0), (w 34 0), (w 35 0), (w 36 0)) o) (layR (fun _ => 0) (w 31 0) o ((w 500 0 0)).toNatClampNeg) ((w 420 0 0), (w 421 0 0), (w 27 0), (w 28 0), (w 29 0)) g sp sn) ((w 500 0 0)).toNatClampNeg 720 (ordR (w 38 0) 6) (-1) (va_cpy (ordR (w 38 0) 6) (w 39 0) 0 0 6)).1 else (grtR (fun o lim => runV lim (layK ((w 500 0 0), (w 501 0 0), (w 502 0 0), (w 30 0), (w 32 0), (w 33 0), (w 34 0), (w 35 0), (w 36 0)) o) (layR (fun _ => 0) (w 31 0) o ((w 500 0 0)).toNatClampNeg) ((w 420 0 0), (w 421 0 0), (w 27 0), (w 28 0), (w 29 0)) g sp sn) ((w 500 0 0)).toNatClampNeg 720 (ordR (w 38 0) 6) (-1) (w 39 0)).1) ∧ u_ = ((wB (wS (wS w 39 0 (if ¬ ((wh = 0 ∨ wh = 1) ∧ (w 500 0 0) ≤ 6) ∨ irF g sp sn = 0 then (w 39 0) else if wh = 0 then (lstR (fun o lim => runV lim (layK ((w 500 0 0), (w 501 0 0), (w 502 0 0), (w 30 0), (w 32 0), (w 33 0), (w 34 0), (w 35 0), (w 36 0)) o) (layR (fun _ => 0) (w 31 0) o ((w 500 0 0)).toNatClampNeg) ((w 420 0 0), (w 421 0 0), (w 27 0), (w 28 0), (w 29 0)) g sp sn) ((w 500 0 0)).toNatClampNeg 720 (ordR (w 38 0) 6) (-1) (va_cpy (ordR (w 38 0) 6) (w 39 0) 0 0 6)).2 else (grtR (fun o lim => runV lim (layK ((w 500 0 0), (w 501 0 0), (w 502 0 0), (w 30 0), (w 32 0), (w 33 0), (w 34 0), (w 35 0), (w 36 0)) o) (layR (fun _ => 0) (w 31 0) o ((w 500 0 0)).toNatClampNeg) ((w 420 0 0), (w 421 0 0), (w 27 0), (w 28 0), (w 29 0)) g sp sn) ((w 500 0 0)).toNatClampNeg 720 (ordR (w 38 0) 6) (-1) (w 39 0)).2)) 909 0 (fun _ => if ¬ ((wh = 0 ∨ wh = 1) ∧ (w 500 0 0) ≤ 6) ∨ irF g sp sn = 0 then (w 909 0 0) else if wh = 0 then (w 500 0 0) else (w 500 0 0))) SCO uh_), z)
set_option maxHeartbeats 4000000 in
set_option maxRecDepth 100000 in
theorem c_X11_order (E : En) (hE : q_ok E) (w : Wi) (z : Wj) (g : Int32) (sp : Int32) (sn : Int32) (wh : Int32) (h1 : 1 ≤ (w 500 0 0)) (h3 : ∀ o, pm (w 500 0 0) o → (fun o lim => runV lim (layK ((w 500 0 0), (w 501 0 0), (w 502 0 0), (w 30 0), (w 32 0), (w 33 0), (w 34 0), (w 35 0), (w 36 0)) o) (layR (fun _ => 0) (w 31 0) o ((w 500 0 0)).toNatClampNeg) ((w 420 0 0), (w 421 0 0), (w 27 0), (w 28 0), (w 29 0)) g sp sn) o NOL = (-1) ∨ 0 ≤ (fun o lim => runV lim (layK ((w 500 0 0), (w 501 0 0), (w 502 0 0), (w 30 0), (w 32 0), (w 33 0), (w 34 0), (w 35 0), (w 36 0)) o) (layR (fun _ => 0) (w 31 0) o ((w 500 0 0)).toNatClampNeg) ((w 420 0 0), (w 421 0 0), (w 27 0), (w 28 0), (w 29 0)) g sp sn) o NOL) : CtI M_X11_order E [.ref (E.ad 11 0), .int g, .int sp, .int sn, .int wh] w z (P_X11_order w z g sp sn wh) := by
  refine ctI_of (lv := [(0, .ref (E.ad 11 0)), (1, .int g), (2, .int sp), (3, .int sn), (4, .int wh)]) hE m_X11_order (Nat.le_of_ble_eq_true rfl) rfl ?_
  intro K A C0
  have C : Cx K E A cX11_order 6 RX11 (some .int) { frames := 6, cells := 0, slots := 0, locals := 144 } := C0
  clear C0
  have hL28 : ∀ (td : Int32), (td = (if (wh = 0 ∨ wh = 1) ∧ (w 500 0 0) ≤ 6 then 1 else 0)) → V K E A 6 (QI K E A (P_X11_order w z g sp sn wh)) 28 [(0, .ref (E.ad 11 0)), (1, .int g), (2, .int sp), (3, .int sn), (4, .int wh)] [.int td] w z := by
    intro td hinv
    have et := hinv
    refine v_istore (lv2 := [(5, .int td), (0, .ref (E.ad 11 0)), (1, .int g), (2, .int sp), (3, .int sn), (4, .int wh)]) C dX11_order_28 (by decide) rfl ?_
    refine v_iload C 0 dX11_order_30 rfl ?_
    refine v_if_eq C 44 dX11_order_32 (by decide) (fun c_32 => ?_) (fun c_32 => ?_)
    · refine v_bipush (v := (-2)) C dX11_order_44 (by decide) ?_
      refine v_tS C 909 0 (by decide) ?_
      refine v_w (w2 := (wS w 909 0 (fun _ => (w 909 0 0)))) (by simp only [wS_s, wS_t, wS_a, ne_eq, Nat.reduceEqDiff, not_false_eq_true, wS_wS, wS_p, wS_pp, Nat.reduceLT, id_eq]) ?_
      exact v_iret C dX11_order_46 ⟨_, (by clear C; rw [if_pos (by clear h3; grind)]), (congr (congrArg Prod.mk ((kp_e (kp_add (e := (fun _ => (w 909 0 0))) (by simp only [wS_s, wS_t, wS_a, ne_eq, Nat.reduceEqDiff, not_false_eq_true]) (kp_add (e := (w 39 0)) (by simp only [wS_s, wS_t, wS_a, ne_eq, Nat.reduceEqDiff, not_false_eq_true]) (kp_S (by decide) kp_r)))).trans (congrArg (fun c_ => wB c_ SCO _) (wS_eq (wS_eq rfl (by clear C; rw [if_pos (by clear h3; grind)])) (fu_eq (by clear C; rw [if_pos (by clear h3; grind)])))))) rfl)⟩
    · refine v_iload_n C 2 dX11_order_35 rfl ?_
      refine v_iload_n C 3 dX11_order_36 rfl ?_
      refine v_iload_n C 4 dX11_order_37 rfl ?_
      refine v_sI C [.int g, .int sp, .int sn] 3 (c_X11_isRun E hE _ _  g sp sn  ) m_X11_isRun x_842 x_843 p_X11_isRun rfl ⟨Nat.le_of_ble_eq_true rfl, Nat.le_of_ble_eq_true rfl⟩ rfl (Nat.le_of_ble_eq_true rfl) dX11_order_38 (fun r1 u1 v1 hp1 => ?_)
      obtain ⟨hr1, hu1⟩ := hp1
      subst hr1
      cases hu1
      refine v_if_ne C 47 dX11_order_41 (by decide) (fun c_41 => ?_) (fun c_41 => ?_)
      · refine v_aload_n C 1 dX11_order_47 rfl ?_
        refine v_gR C 11 0 8 10 0 (C_m C (u_11 0 (by decide))) k_11 (by decide) x_508 (fun _ _ _ => rfl) dX11_order_48 ?_
        refine v_iload_n C 2 dX11_order_51 rfl ?_
        refine v_iload_n C 3 dX11_order_52 rfl ?_
        refine v_iload_n C 4 dX11_order_53 rfl ?_
        refine v_vV C 10 0 [.int g, .int sp, .int sn] 3 (c_X10_tell E hE _ _  g sp sn  ) m_X10_tell x_884 x_885 x_886 p_X10_tell rfl ⟨Nat.le_of_ble_eq_true rfl, Nat.le_of_ble_eq_true rfl⟩ (C_m C (u_10 0 (by decide))) k_10 rfl (Nat.le_of_ble_eq_true rfl) dX11_order_54 (fun u2 v2 hp2 => ?_)
        have hu2 := hp2
        cases hu2
        refine v_iload C 5 dX11_order_57 rfl ?_
        refine v_if_ne C 72 dX11_order_59 (by decide) (fun c_59 => ?_) (fun c_59 => ?_)
        · refine v_aload_n C 1 dX11_order_72 rfl ?_
          refine v_gR C 11 0 8 10 0 (C_m C (u_11 0 (by decide))) k_11 (by decide) x_508 (fun _ _ _ => rfl) dX11_order_73 ?_
          refine v_vI C 10 0 [] 0 (c_X10_greatestOrder E hE _ _    (by clear C; (try simp only [wS_s, wS_t, wS_a, ne_eq, Nat.reduceEqDiff, not_false_eq_true]); assumption) (by clear C; (try simp only [wS_s, wS_t, wS_a, ne_eq, Nat.reduceEqDiff, not_false_eq_true]); clear h3; grind) (by clear C; (try simp only [wS_s, wS_t, wS_a, ne_eq, Nat.reduceEqDiff, not_false_eq_true]); exact h3)) m_X10_greatestOrder x_960 x_961 x_962 p_X10_greatestOrder rfl ⟨Nat.le_of_ble_eq_true rfl, Nat.le_of_ble_eq_true rfl⟩ (C_m C (u_10 0 (by decide))) k_10 rfl (Nat.le_of_ble_eq_true rfl) dX11_order_76 (fun r3 u3 v3 hp3 => ?_)
          obtain ⟨uh3, hr3, hu3⟩ := hp3
          subst hr3
          cases hu3
          refine v_i (y := (grtR (fun o lim => runV lim (layK ((w 500 0 0), (w 501 0 0), (w 502 0 0), (w 30 0), (w 32 0), (w 33 0), (w 34 0), (w 35 0), (w 36 0)) o) (layR (fun _ => 0) (w 31 0) o ((w 500 0 0)).toNatClampNeg) ((w 420 0 0), (w 421 0 0), (w 27 0), (w 28 0), (w 29 0)) g sp sn) ((w 500 0 0)).toNatClampNeg 720 (ordR (w 38 0) 6) (-1) (w 39 0)).1) (by simp only [wS_s, wS_t, wS_a, ne_eq, Nat.reduceEqDiff, not_false_eq_true]) ?_
          refine v_w (w2 := (wB (wS (wS (wS (wS (wS w 39 0 ((grtR (fun o lim => runV lim (layK ((w 500 0 0), (w 501 0 0), (w 502 0 0), (w 30 0), (w 32 0), (w 33 0), (w 34 0), (w 35 0), (w 36 0)) o) (layR (fun _ => 0) (w 31 0) o ((w 500 0 0)).toNatClampNeg) ((w 420 0 0), (w 421 0 0), (w 27 0), (w 28 0), (w 29 0)) g sp sn) ((w 500 0 0)).toNatClampNeg 720 (ordR (w 38 0) 6) (-1) (w 39 0)).2)) 909 0 (fun _ => (w 500 0 0))) 911 0 (fun _ => g)) 912 0 (fun _ => sp)) 913 0 (fun _ => sn)) SC2 uh3)) (by simp (decide := true) only [wB_o, wB_i, wS_s, wS_t, wS_a, ne_eq, Nat.reduceEqDiff, not_false_eq_true, wS_wS, wS_p, wS_pp, Nat.reduceLT, id_eq]) ?_
          exact v_iret C dX11_order_79 ⟨_, (by clear C; rw [if_neg (by clear h3; grind)]; first | rw [if_pos (by assumption)] | rw [if_neg (by assumption)]), (congr (congrArg Prod.mk ((kp_e (kp_add (e := (fun _ => (w 500 0 0))) (by simp (decide := true) only [wB_o, wB_i, wS_s, wS_t, wS_a, ne_eq, Nat.reduceEqDiff, not_false_eq_true]) (kp_add (e := ((grtR (fun o lim => runV lim (layK ((w 500 0 0), (w 501 0 0), (w 502 0 0), (w 30 0), (w 32 0), (w 33 0), (w 34 0), (w 35 0), (w 36 0)) o) (layR (fun _ => 0) (w 31 0) o ((w 500 0 0)).toNatClampNeg) ((w 420 0 0), (w 421 0 0), (w 27 0), (w 28 0), (w 29 0)) g sp sn) ((w 500 0 0)).toNatClampNeg 720 (ordR (w 38 0) 6) (-1) (w 39 0)).2)) (by simp (decide := true) only [wB_o, wB_i, wS_s, wS_t, wS_a, ne_eq, Nat.reduceEqDiff, not_false_eq_true]) (kp_B (by decide) (kp_S (by decide) (kp_S (by decide) (kp_S (by decide) (kp_S (by decide) (kp_S (by decide) kp_r))))))))).trans (congrArg (fun c_ => wB c_ SCO _) (wS_eq (wS_eq rfl (by clear C; rw [if_neg (by clear h3; grind)]; first | rw [if_pos (by assumption)] | rw [if_neg (by assumption)])) (fu_eq (by clear C; rw [if_neg (by clear h3; grind)]; first | rw [if_pos (by assumption)] | rw [if_neg (by assumption)])))))) rfl)⟩
        · refine v_aload_n C 1 dX11_order_62 rfl ?_
          refine v_gR C 11 0 8 10 0 (C_m C (u_11 0 (by decide))) k_11 (by decide) x_508 (fun _ _ _ => rfl) dX11_order_63 ?_
          refine v_vI C 10 0 [] 0 (c_X10_leastOrder E hE _ _    (by clear C; (try simp only [wS_s, wS_t, wS_a, ne_eq, Nat.reduceEqDiff, not_false_eq_true]); assumption) (by clear C; (try simp only [wS_s, wS_t, wS_a, ne_eq, Nat.reduceEqDiff, not_false_eq_true]); clear h3; grind)) m_X10_leastOrder x_928 x_929 x_930 p_X10_leastOrder rfl ⟨Nat.le_of_ble_eq_true rfl, Nat.le_of_ble_eq_true rfl⟩ (C_m C (u_10 0 (by decide))) k_10 rfl (Nat.le_of_ble_eq_true rfl) dX11_order_66 (fun r4 u4 v4 hp4 => ?_)
          obtain ⟨uh4, hr4, hu4⟩ := hp4
          subst hr4
          cases hu4
          refine v_i (y := (lstR (fun o lim => runV lim (layK ((w 500 0 0), (w 501 0 0), (w 502 0 0), (w 30 0), (w 32 0), (w 33 0), (w 34 0), (w 35 0), (w 36 0)) o) (layR (fun _ => 0) (w 31 0) o ((w 500 0 0)).toNatClampNeg) ((w 420 0 0), (w 421 0 0), (w 27 0), (w 28 0), (w 29 0)) g sp sn) ((w 500 0 0)).toNatClampNeg 720 (ordR (w 38 0) 6) (-1) (va_cpy (ordR (w 38 0) 6) (w 39 0) 0 0 6)).1) (by simp only [wS_s, wS_t, wS_a, ne_eq, Nat.reduceEqDiff, not_false_eq_true]) ?_
          refine v_w (w2 := (wB (wS (wS (wS (wS (wS w 39 0 ((lstR (fun o lim => runV lim (layK ((w 500 0 0), (w 501 0 0), (w 502 0 0), (w 30 0), (w 32 0), (w 33 0), (w 34 0), (w 35 0), (w 36 0)) o) (layR (fun _ => 0) (w 31 0) o ((w 500 0 0)).toNatClampNeg) ((w 420 0 0), (w 421 0 0), (w 27 0), (w 28 0), (w 29 0)) g sp sn) ((w 500 0 0)).toNatClampNeg 720 (ordR (w 38 0) 6) (-1) (va_cpy (ordR (w 38 0) 6) (w 39 0) 0 0 6)).2)) 909 0 (fun _ => (w 500 0 0))) 911 0 (fun _ => g)) 912 0 (fun _ => sp)) 913 0 (fun _ => sn)) SC2 uh4)) (by simp (decide := true) only [wB_o, wB_i, wS_s, wS_t, wS_a, ne_eq, Nat.reduceEqDiff, not_false_eq_true, wS_wS, wS_p, wS_pp, Nat.reduceLT, id_eq]) ?_
          refine v_goto C 79 dX11_order_69 (by decide) ?_
          exact v_iret C dX11_order_79 ⟨_, (by clear C; rw [if_neg (by clear h3; grind)]; first | rw [if_pos (by assumption)] | rw [if_neg (by assumption)]), (congr (congrArg Prod.mk ((kp_e (kp_add (e := (fun _ => (w 500 0 0))) (by simp (decide := true) only [wB_o, wB_i, wS_s, wS_t, wS_a, ne_eq, Nat.reduceEqDiff, not_false_eq_true]) (kp_add (e := ((lstR (fun o lim => runV lim (layK ((w 500 0 0), (w 501 0 0), (w 502 0 0), (w 30 0), (w 32 0), (w 33 0), (w 34 0), (w 35 0), (w 36 0)) o) (layR (fun _ => 0) (w 31 0) o ((w 500 0 0)).toNatClampNeg) ((w 420 0 0), (w 421 0 0), (w 27 0), (w 28 0), (w 29 0)) g sp sn) ((w 500 0 0)).toNatClampNeg 720 (ordR (w 38 0) 6) (-1) (va_cpy (ordR (w 38 0) 6) (w 39 0) 0 0 6)).2)) (by simp (decide := true) only [wB_o, wB_i, wS_s, wS_t, wS_a, ne_eq, Nat.reduceEqDiff, not_false_eq_true]) (kp_B (by decide) (kp_S (by decide) (kp_S (by decide) (kp_S (by decide) (kp_S (by decide) (kp_S (by decide) kp_r))))))))).trans (congrArg (fun c_ => wB c_ SCO _) (wS_eq (wS_eq rfl (by clear C; rw [if_neg (by clear h3; grind)]; first | rw [if_pos (by assumption)] | rw [if_neg (by assumption)])) (fu_eq (by clear C; rw [if_neg (by clear h3; grind)]; first | rw [if_pos (by assumption)] | rw [if_neg (by assumption)])))))) rfl)⟩
      · refine v_bipush (v := (-2)) C dX11_order_44 (by decide) ?_
        refine v_tS C 909 0 (by decide) ?_
        refine v_w (w2 := (wS w 909 0 (fun _ => (w 909 0 0)))) (by simp only [wS_s, wS_t, wS_a, ne_eq, Nat.reduceEqDiff, not_false_eq_true, wS_wS, wS_p, wS_pp, Nat.reduceLT, id_eq]) ?_
        exact v_iret C dX11_order_46 ⟨_, (by clear C; rw [if_pos (by clear h3; grind)]), (congr (congrArg Prod.mk ((kp_e (kp_add (e := (fun _ => (w 909 0 0))) (by simp only [wS_s, wS_t, wS_a, ne_eq, Nat.reduceEqDiff, not_false_eq_true]) (kp_add (e := (w 39 0)) (by simp only [wS_s, wS_t, wS_a, ne_eq, Nat.reduceEqDiff, not_false_eq_true]) (kp_S (by decide) kp_r)))).trans (congrArg (fun c_ => wB c_ SCO _) (wS_eq (wS_eq rfl (by clear C; rw [if_pos (by clear h3; grind)])) (fu_eq (by clear C; rw [if_pos (by clear h3; grind)])))))) rfl)⟩
  refine v_iload C 4 dX11_order_0 rfl ?_
  refine v_if_eq C 11 dX11_order_2 (by decide) (fun c_2 => ?_) (fun c_2 => ?_)
  · refine v_aload_n C 0 dX11_order_11 rfl ?_
    refine v_gR C 11 0 4 5 0 (C_m C (u_11 0 (by decide))) k_11 (by decide) x_504 (fun _ _ _ => rfl) dX11_order_12 ?_
    refine v_gI C 5 0 0 500 (w 500 0 0) (C_m C (u_5 0 (by decide))) k_5 (by decide) rfl rfl x_174 rfl dX11_order_15 ?_
    refine v_bipush (v := 6) C dX11_order_18 (by decide) ?_
    refine v_ic_gt C 27 dX11_order_20 (by decide) (fun c_20 => ?_) (fun c_20 => ?_)
    · refine v_iconst (v := 0) C dX11_order_27 (by decide) ?_
      exact hL28 0 (by clear C hL28; clear h3; grind)
    · refine v_iconst (v := 1) C dX11_order_23 (by decide) ?_
      refine v_goto C 28 dX11_order_24 (by decide) ?_
      exact hL28 1 (by clear C hL28; clear h3; grind)
  · refine v_iload C 4 dX11_order_5 rfl ?_
    refine v_iconst (v := 1) C dX11_order_7 (by decide) ?_
    refine v_ic_ne C 27 dX11_order_8 (by decide) (fun c_8 => ?_) (fun c_8 => ?_)
    · refine v_iconst (v := 0) C dX11_order_27 (by decide) ?_
      exact hL28 0 (by clear C hL28; clear h3; grind)
    · refine v_aload_n C 0 dX11_order_11 rfl ?_
      refine v_gR C 11 0 4 5 0 (C_m C (u_11 0 (by decide))) k_11 (by decide) x_504 (fun _ _ _ => rfl) dX11_order_12 ?_
      refine v_gI C 5 0 0 500 (w 500 0 0) (C_m C (u_5 0 (by decide))) k_5 (by decide) rfl rfl x_174 rfl dX11_order_15 ?_
      refine v_bipush (v := 6) C dX11_order_18 (by decide) ?_
      refine v_ic_gt C 27 dX11_order_20 (by decide) (fun c_20 => ?_) (fun c_20 => ?_)
      · refine v_iconst (v := 0) C dX11_order_27 (by decide) ?_
        exact hL28 0 (by clear C hL28; clear h3; grind)
      · refine v_iconst (v := 1) C dX11_order_23 (by decide) ?_
        refine v_goto C 28 dX11_order_24 (by decide) ?_
        exact hL28 1 (by clear C hL28; clear h3; grind)
abbrev P_X11_cut (w : Wi) (z : Wj) (g : Int32) (sp : Int32) (sn : Int32) (m : Int32) : Int32 → WW → Prop := fun r_ u_ => ∃ (uh_ : Wi), r_ = (if ¬ (0 ≤ m ∧ (w 500 0 0) ≤ 10) ∨ irF g sp sn = 0 then (-2) else cutF m ((w 500 0 0), (w 501 0 0), (w 502 0 0), (w 30 0), (w 32 0), (w 33 0), (w 34 0), (w 35 0), (w 36 0)) (w 31 0) ((w 420 0 0), (w 421 0 0), (w 27 0), (w 28 0), (w 29 0)) g sp sn (bkR (w 32 0) (w 40 0) ((w 500 0 0) + 1).toNatClampNeg)) ∧ u_ = ((wB w SCC uh_), z)
set_option maxHeartbeats 4000000 in
set_option maxRecDepth 100000 in
theorem c_X11_cut (E : En) (hE : q_ok E) (w : Wi) (z : Wj) (g : Int32) (sp : Int32) (sn : Int32) (m : Int32) (h1 : 0 ≤ (w 500 0 0)) : CtI M_X11_cut E [.ref (E.ad 11 0), .int g, .int sp, .int sn, .int m] w z (P_X11_cut w z g sp sn m) := by
  refine ctI_of (lv := [(0, .ref (E.ad 11 0)), (1, .int g), (2, .int sp), (3, .int sn), (4, .int m)]) hE m_X11_cut (Nat.le_of_ble_eq_true rfl) rfl ?_
  intro K A C0
  have C : Cx K E A cX11_cut 6 RX11 (some .int) { frames := 7, cells := 0, slots := 0, locals := 169 } := C0
  clear C0
  have hL22 : ∀ (td : Int32), (td = (if 0 ≤ m ∧ (w 500 0 0) ≤ 10 then 1 else 0)) → V K E A 6 (QI K E A (P_X11_cut w z g sp sn m)) 22 [(0, .ref (E.ad 11 0)), (1, .int g), (2, .int sp), (3, .int sn), (4, .int m)] [.int td] w z := by
    intro td hinv
    have et := hinv
    refine v_istore (lv2 := [(5, .int td), (0, .ref (E.ad 11 0)), (1, .int g), (2, .int sp), (3, .int sn), (4, .int m)]) C dX11_cut_22 (by decide) rfl ?_
    refine v_iload C 0 dX11_cut_24 rfl ?_
    refine v_if_eq C 38 dX11_cut_26 (by decide) (fun c_26 => ?_) (fun c_26 => ?_)
    · refine v_bipush (v := (-2)) C dX11_cut_38 (by decide) ?_
      exact v_iret C dX11_cut_40 ⟨_, (by clear C; rw [if_pos (by grind)]), (congr (congrArg Prod.mk (kp_e kp_r)) rfl)⟩
    · refine v_iload_n C 2 dX11_cut_29 rfl ?_
      refine v_iload_n C 3 dX11_cut_30 rfl ?_
      refine v_iload_n C 4 dX11_cut_31 rfl ?_
      refine v_sI C [.int g, .int sp, .int sn] 3 (c_X11_isRun E hE _ _  g sp sn  ) m_X11_isRun x_842 x_843 p_X11_isRun rfl ⟨Nat.le_of_ble_eq_true rfl, Nat.le_of_ble_eq_true rfl⟩ rfl (Nat.le_of_ble_eq_true rfl) dX11_cut_32 (fun r1 u1 v1 hp1 => ?_)
      obtain ⟨hr1, hu1⟩ := hp1
      subst hr1
      cases hu1
      refine v_if_ne C 41 dX11_cut_35 (by decide) (fun c_35 => ?_) (fun c_35 => ?_)
      · refine v_aload_n C 1 dX11_cut_41 rfl ?_
        refine v_gR C 11 0 8 10 0 (C_m C (u_11 0 (by decide))) k_11 (by decide) x_508 (fun _ _ _ => rfl) dX11_cut_42 ?_
        refine v_iload_n C 2 dX11_cut_45 rfl ?_
        refine v_iload_n C 3 dX11_cut_46 rfl ?_
        refine v_iload_n C 4 dX11_cut_47 rfl ?_
        refine v_vV C 10 0 [.int g, .int sp, .int sn] 3 (c_X10_tell E hE _ _  g sp sn  ) m_X10_tell x_884 x_885 x_886 p_X10_tell rfl ⟨Nat.le_of_ble_eq_true rfl, Nat.le_of_ble_eq_true rfl⟩ (C_m C (u_10 0 (by decide))) k_10 rfl (Nat.le_of_ble_eq_true rfl) dX11_cut_48 (fun u2 v2 hp2 => ?_)
        have hu2 := hp2
        cases hu2
        refine v_aload_n C 1 dX11_cut_51 rfl ?_
        refine v_gR C 11 0 8 10 0 (C_m C (u_11 0 (by decide))) k_11 (by decide) x_508 (fun _ _ _ => rfl) dX11_cut_52 ?_
        refine v_iload C 5 dX11_cut_55 rfl ?_
        refine v_vI C 10 0 [.int m] 1 (c_X10_mostCut E hE _ _  m  (by clear C; (try simp only [wS_s, wS_t, wS_a, ne_eq, Nat.reduceEqDiff, not_false_eq_true]); assumption) (by clear C; (try simp only [wS_s, wS_t, wS_a, ne_eq, Nat.reduceEqDiff, not_false_eq_true]); grind)) m_X10_mostCut x_976 x_977 x_978 p_X10_mostCut rfl ⟨Nat.le_of_ble_eq_true rfl, Nat.le_of_ble_eq_true rfl⟩ (C_m C (u_10 0 (by decide))) k_10 rfl (Nat.le_of_ble_eq_true rfl) dX11_cut_57 (fun r3 u3 v3 hp3 => ?_)
        obtain ⟨uh3, hr3, hu3⟩ := hp3
        subst hr3
        cases hu3
        refine v_i (y := cutF m ((w 500 0 0), (w 501 0 0), (w 502 0 0), (w 30 0), (w 32 0), (w 33 0), (w 34 0), (w 35 0), (w 36 0)) (w 31 0) ((w 420 0 0), (w 421 0 0), (w 27 0), (w 28 0), (w 29 0)) g sp sn (bkR (w 32 0) (w 40 0) ((w 500 0 0) + 1).toNatClampNeg)) (by simp only [wS_s, wS_t, wS_a, ne_eq, Nat.reduceEqDiff, not_false_eq_true]) ?_
        refine v_w (w2 := (wB (wS (wS (wS w 911 0 (fun _ => g)) 912 0 (fun _ => sp)) 913 0 (fun _ => sn)) SC6 uh3)) (by simp (decide := true) only [wB_o, wB_i, wS_s, wS_t, wS_a, ne_eq, Nat.reduceEqDiff, not_false_eq_true, wS_wS, wS_p, wS_pp, Nat.reduceLT, id_eq]) ?_
        exact v_iret C dX11_cut_60 ⟨_, (by clear C; rw [if_neg (by grind)]), (congr (congrArg Prod.mk (kp_e (kp_B (by decide) (kp_S (by decide) (kp_S (by decide) (kp_S (by decide) kp_r)))))) rfl)⟩
      · refine v_bipush (v := (-2)) C dX11_cut_38 (by decide) ?_
        exact v_iret C dX11_cut_40 ⟨_, (by clear C; rw [if_pos (by grind)]), (congr (congrArg Prod.mk (kp_e kp_r)) rfl)⟩
  refine v_iload C 4 dX11_cut_0 rfl ?_
  refine v_if_lt C 21 dX11_cut_2 (by decide) (fun c_2 => ?_) (fun c_2 => ?_)
  · refine v_iconst (v := 0) C dX11_cut_21 (by decide) ?_
    exact hL22 0 (by clear C hL22; grind)
  · refine v_aload_n C 0 dX11_cut_5 rfl ?_
    refine v_gR C 11 0 4 5 0 (C_m C (u_11 0 (by decide))) k_11 (by decide) x_504 (fun _ _ _ => rfl) dX11_cut_6 ?_
    refine v_gI C 5 0 0 500 (w 500 0 0) (C_m C (u_5 0 (by decide))) k_5 (by decide) rfl rfl x_174 rfl dX11_cut_9 ?_
    refine v_bipush (v := 10) C dX11_cut_12 (by decide) ?_
    refine v_ic_gt C 21 dX11_cut_14 (by decide) (fun c_14 => ?_) (fun c_14 => ?_)
    · refine v_iconst (v := 0) C dX11_cut_21 (by decide) ?_
      exact hL22 0 (by clear C hL22; grind)
    · refine v_iconst (v := 1) C dX11_cut_17 (by decide) ?_
      refine v_goto C 22 dX11_cut_18 (by decide) ?_
      exact hL22 1 (by clear C hL22; grind)
