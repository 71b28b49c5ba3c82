abbrev P_X10_tell (w : Wi) (z : Wj) (g : Int32) (sp : Int32) (sn : Int32) : WW → Prop := fun u_ => u_ = ((wS (wS (wS w 911 0 (fun _ => g)) 912 0 (fun _ => sp)) 913 0 (fun _ => sn)), z)
set_option maxHeartbeats 4000000 in
set_option maxRecDepth 100000 in
theorem c_X10_tell (E : En) (hE : q_ok E) (w : Wi) (z : Wj) (g : Int32) (sp : Int32) (sn : Int32) : CtV M_X10_tell E [.ref (E.ad 10 0), .int g, .int sp, .int sn] w z (P_X10_tell w z g sp sn) := by
  refine ctV_of (lv := [(0, .ref (E.ad 10 0)), (1, .int g), (2, .int sp), (3, .int sn)]) hE m_X10_tell (Nat.le_of_ble_eq_true rfl) rfl ?_
  intro K A C0
  have C : Cx K E A cX10_tell 4 RX10 none { frames := 0, cells := 0, slots := 0, locals := 0 } := C0
  clear C0
  refine v_aload_n C 0 dX10_tell_0 rfl ?_
  refine v_iload_n C 1 dX10_tell_1 rfl ?_
  refine v_pI C 10 0 11 911 (C_m C (u_10 0 (by decide))) k_10 ty_10 (by decide) rfl ⟨rfl, rfl⟩ x_368 rfl rfl dX10_tell_2 ?_
  refine v_aload_n C 0 dX10_tell_5 rfl ?_
  refine v_iload_n C 2 dX10_tell_6 rfl ?_
  refine v_pI C 10 0 12 912 (C_m C (u_10 0 (by decide))) k_10 ty_10 (by decide) rfl ⟨rfl, rfl⟩ x_369 rfl rfl dX10_tell_7 ?_
  refine v_aload_n C 0 dX10_tell_10 rfl ?_
  refine v_iload_n C 3 dX10_tell_11 rfl ?_
  refine v_pI C 10 0 13 913 (C_m C (u_10 0 (by decide))) k_10 ty_10 (by decide) rfl ⟨rfl, rfl⟩ x_370 rfl rfl dX10_tell_12 ?_
  exact v_vret C dX10_tell_15 (congr (congrArg Prod.mk rfl) rfl)
abbrev P_X10_spanOfBent (w : Wi) (z : Wj) (lim : Int32) : Int32 → WW → Prop := fun r_ u_ => ∃ (uh_ : Wi), r_ = (runV lim ((w 500 2 0), (w 501 2 0), (w 502 2 0), (w 30 2), (w 32 2), (w 33 2), (w 34 2), (w 35 2), (w 36 2)) (w 31 2) ((w 420 0 0), (w 421 0 0), (w 27 0), (w 28 0), (w 29 0)) (w 911 0 0) (w 912 0 0) (w 913 0 0)) ∧ u_ = ((wB w SC1 uh_), z)
set_option maxHeartbeats 4000000 in
set_option maxRecDepth 100000 in
theorem c_X10_spanOfBent (E : En) (hE : q_ok E) (w : Wi) (z : Wj) (lim : Int32) (h1 : 0 ≤ (w 500 2 0)) (h2 : (w 500 2 0) ≤ 16) : CtI M_X10_spanOfBent E [.ref (E.ad 10 0), .int lim] w z (P_X10_spanOfBent w z lim) := by
  refine ctI_of (lv := [(0, .ref (E.ad 10 0)), (1, .int lim)]) hE m_X10_spanOfBent (Nat.le_of_ble_eq_true rfl) rfl ?_
  intro K A C0
  have C : Cx K E A cX10_spanOfBent 2 RX10 (some .int) { frames := 4, cells := 0, slots := 0, locals := 100 } := C0
  clear C0
  refine v_aload_n C 0 dX10_spanOfBent_0 rfl ?_
  refine v_gR C 10 0 3 0 1 (C_m C (u_10 0 (by decide))) k_10 (by decide) x_360 (fun _ _ _ => rfl) dX10_spanOfBent_1 ?_
  refine v_aload_n C 0 dX10_spanOfBent_4 rfl ?_
  refine v_gR C 10 0 2 5 2 (C_m C (u_10 0 (by decide))) k_10 (by decide) x_359 (fun _ _ _ => rfl) dX10_spanOfBent_5 ?_
  refine v_vV C 0 1 [.ref (E.ad 5 2)] 1 (c_X0_start E hE _ _ 1 (by decide) 2 (by decide)   ) m_X0_start x_892 x_788 x_789 p_X0_start rfl ⟨Nat.le_of_ble_eq_true rfl, Nat.le_of_ble_eq_true rfl⟩ (C_m C (u_0 1 (by decide))) k_0 rfl (Nat.le_of_ble_eq_true rfl) dX10_spanOfBent_8 (fun u1 v1 hp1 => ?_)
  have hu1 := hp1
  cases hu1
  refine v_aload_n C 0 dX10_spanOfBent_11 rfl ?_
  refine v_gR C 10 0 5 6 1 (C_m C (u_10 0 (by decide))) k_10 (by decide) x_362 (fun _ _ _ => rfl) dX10_spanOfBent_12 ?_
  refine v_aload_n C 0 dX10_spanOfBent_15 rfl ?_
  refine v_gI C 10 0 11 911 (w 911 0 0) (C_m C (u_10 0 (by decide))) k_10 (by decide) rfl rfl x_368 (by simp only [wS_s, wS_t, wS_a, ne_eq, Nat.reduceEqDiff, not_false_eq_true]) dX10_spanOfBent_16 ?_
  refine v_aload_n C 0 dX10_spanOfBent_19 rfl ?_
  refine v_gI C 10 0 12 912 (w 912 0 0) (C_m C (u_10 0 (by decide))) k_10 (by decide) rfl rfl x_369 (by simp only [wS_s, wS_t, wS_a, ne_eq, Nat.reduceEqDiff, not_false_eq_true]) dX10_spanOfBent_20 ?_
  refine v_aload_n C 0 dX10_spanOfBent_23 rfl ?_
  refine v_gI C 10 0 13 913 (w 913 0 0) (C_m C (u_10 0 (by decide))) k_10 (by decide) rfl rfl x_370 (by simp only [wS_s, wS_t, wS_a, ne_eq, Nat.reduceEqDiff, not_false_eq_true]) dX10_spanOfBent_24 ?_
  refine v_vV C 6 1 [.int (w 911 0 0), .int (w 912 0 0), .int (w 913 0 0)] 3 (c_X6_start E hE _ _ 1 (by decide) (w 911 0 0) (w 912 0 0) (w 913 0 0)  ) m_X6_start x_893 x_846 x_847 p_X6_start rfl ⟨Nat.le_of_ble_eq_true rfl, Nat.le_of_ble_eq_true rfl⟩ (C_m C (u_6 1 (by decide))) k_6 rfl (Nat.le_of_ble_eq_true rfl) dX10_spanOfBent_27 (fun u2 v2 hp2 => ?_)
  have hu2 := hp2
  cases hu2
  refine v_w (w2 := (wS (wS (wS (wS (wS (wS (wS (wS (wS (wS (wS (wS (wS (wS (wS (wS w 13 1 (fillR (w 13 1) (w 501 2 0) 17)) 15 1 (fillR (w 15 1) (w 501 2 0) 17)) 16 1 (fillR (w 16 1) 0 17)) 104 1 (fun _ => 0)) 105 1 (fun _ => 0)) 106 1 (fun _ => 0)) 107 1 (fun _ => (-1))) 108 1 (fun _ => 0)) 109 1 (fun _ => 0)) 580 1 (fun _ => (w 911 0 0))) 581 1 (fun _ => (w 913 0 0))) 582 1 (fun _ => 0)) 583 1 (fun _ => 0)) 584 1 (fun _ => (w 912 0 0))) 585 1 (fun _ => 0)) 586 1 (fun _ => (w 912 0 0)))) (by simp only [wS_s, wS_t, wS_a, ne_eq, Nat.reduceEqDiff, not_false_eq_true, wS_wS, wS_p, wS_pp, Nat.reduceLT, id_eq]) ?_
  refine v_aload_n C 0 dX10_spanOfBent_30 rfl ?_
  refine v_gR C 10 0 5 6 1 (C_m C (u_10 0 (by decide))) k_10 (by decide) x_362 (fun _ _ _ => rfl) dX10_spanOfBent_31 ?_
  refine v_iload_n C 1 dX10_spanOfBent_34 rfl ?_
  refine v_aload_n C 0 dX10_spanOfBent_35 rfl ?_
  refine v_gR C 10 0 2 5 2 (C_m C (u_10 0 (by decide))) k_10 (by decide) x_359 (fun _ _ _ => rfl) dX10_spanOfBent_36 ?_
  refine v_aload_n C 0 dX10_spanOfBent_39 rfl ?_
  refine v_gR C 10 0 1 4 0 (C_m C (u_10 0 (by decide))) k_10 (by decide) x_358 (fun _ _ _ => rfl) dX10_spanOfBent_40 ?_
  refine v_aload_n C 0 dX10_spanOfBent_43 rfl ?_
  refine v_gR C 10 0 3 0 1 (C_m C (u_10 0 (by decide))) k_10 (by decide) x_360 (fun _ _ _ => rfl) dX10_spanOfBent_44 ?_
  refine v_vI C 6 1 [.int lim, .ref (E.ad 5 2), .ref (E.ad 4 0), .ref (E.ad 0 1)] 4 (c_X6_spanWithin E hE _ _ 1 (by decide) 1 (by decide) 2 (by decide) 0 (by decide) lim  (by clear C; (try simp only [wS_s, wS_t, wS_a, ne_eq, Nat.reduceEqDiff, not_false_eq_true]); first | assumption | grind) (by clear C; (try simp only [wS_s, wS_t, wS_a, ne_eq, Nat.reduceEqDiff, not_false_eq_true]); first | assumption | grind)) m_X6_spanWithin x_908 x_851 x_852 p_X6_spanWithin rfl ⟨Nat.le_of_ble_eq_true rfl, Nat.le_of_ble_eq_true rfl⟩ (C_m C (u_6 1 (by decide))) k_6 rfl (Nat.le_of_ble_eq_true rfl) dX10_spanOfBent_47 (fun r3 u3 v3 hp3 => ?_)
  obtain ⟨hr3, hu3⟩ := hp3
  subst hr3
  cases hu3
  refine v_i (y := spanV lim (spanX lim ((w 500 2 0), (w 501 2 0), (w 502 2 0), (w 30 2), (w 32 2), (w 33 2), (w 34 2), (w 35 2), (w 36 2)) (w 31 2) ((w 420 0 0), (w 421 0 0), (w 27 0), (w 28 0), (w 29 0)) 600 (((fillR (w 13 1) (w 501 2 0) 17), (w 14 1), (fillR (w 15 1) (w 501 2 0) 17), (fillR (w 16 1) 0 17), 0, 0, 0, (-1), 0, 0), ((w 911 0 0), (w 913 0 0), 0, 0, (w 912 0 0), 0, (w 912 0 0))))) (by simp only [wS_s, wS_t, wS_a, ne_eq, Nat.reduceEqDiff, not_false_eq_true]) ?_
  refine v_w (w2 := (wS (wS (wS (wS (wS (wS (wS (wS (wS (wS (wS (wS (wS (wS (wS (wS (wS w 13 1 ((spanX lim ((w 500 2 0), (w 501 2 0), (w 502 2 0), (w 30 2), (w 32 2), (w 33 2), (w 34 2), (w 35 2), (w 36 2)) (w 31 2) ((w 420 0 0), (w 421 0 0), (w 27 0), (w 28 0), (w 29 0)) 600 (((fillR (w 13 1) (w 501 2 0) 17), (w 14 1), (fillR (w 15 1) (w 501 2 0) 17), (fillR (w 16 1) 0 17), 0, 0, 0, (-1), 0, 0), ((w 911 0 0), (w 913 0 0), 0, 0, (w 912 0 0), 0, (w 912 0 0)))).1.1)) 14 1 ((spanX lim ((w 500 2 0), (w 501 2 0), (w 502 2 0), (w 30 2), (w 32 2), (w 33 2), (w 34 2), (w 35 2), (w 36 2)) (w 31 2) ((w 420 0 0), (w 421 0 0), (w 27 0), (w 28 0), (w 29 0)) 600 (((fillR (w 13 1) (w 501 2 0) 17), (w 14 1), (fillR (w 15 1) (w 501 2 0) 17), (fillR (w 16 1) 0 17), 0, 0, 0, (-1), 0, 0), ((w 911 0 0), (w 913 0 0), 0, 0, (w 912 0 0), 0, (w 912 0 0)))).1.2.1)) 15 1 ((spanX lim ((w 500 2 0), (w 501 2 0), (w 502 2 0), (w 30 2), (w 32 2), (w 33 2), (w 34 2), (w 35 2), (w 36 2)) (w 31 2) ((w 420 0 0), (w 421 0 0), (w 27 0), (w 28 0), (w 29 0)) 600 (((fillR (w 13 1) (w 501 2 0) 17), (w 14 1), (fillR (w 15 1) (w 501 2 0) 17), (fillR (w 16 1) 0 17), 0, 0, 0, (-1), 0, 0), ((w 911 0 0), (w 913 0 0), 0, 0, (w 912 0 0), 0, (w 912 0 0)))).1.2.2.1)) 16 1 ((spanX lim ((w 500 2 0), (w 501 2 0), (w 502 2 0), (w 30 2), (w 32 2), (w 33 2), (w 34 2), (w 35 2), (w 36 2)) (w 31 2) ((w 420 0 0), (w 421 0 0), (w 27 0), (w 28 0), (w 29 0)) 600 (((fillR (w 13 1) (w 501 2 0) 17), (w 14 1), (fillR (w 15 1) (w 501 2 0) 17), (fillR (w 16 1) 0 17), 0, 0, 0, (-1), 0, 0), ((w 911 0 0), (w 913 0 0), 0, 0, (w 912 0 0), 0, (w 912 0 0)))).1.2.2.2.1)) 104 1 (fun _ => (spanX lim ((w 500 2 0), (w 501 2 0), (w 502 2 0), (w 30 2), (w 32 2), (w 33 2), (w 34 2), (w 35 2), (w 36 2)) (w 31 2) ((w 420 0 0), (w 421 0 0), (w 27 0), (w 28 0), (w 29 0)) 600 (((fillR (w 13 1) (w 501 2 0) 17), (w 14 1), (fillR (w 15 1) (w 501 2 0) 17), (fillR (w 16 1) 0 17), 0, 0, 0, (-1), 0, 0), ((w 911 0 0), (w 913 0 0), 0, 0, (w 912 0 0), 0, (w 912 0 0)))).1.2.2.2.2.1)) 105 1 (fun _ => (spanX lim ((w 500 2 0), (w 501 2 0), (w 502 2 0), (w 30 2), (w 32 2), (w 33 2), (w 34 2), (w 35 2), (w 36 2)) (w 31 2) ((w 420 0 0), (w 421 0 0), (w 27 0), (w 28 0), (w 29 0)) 600 (((fillR (w 13 1) (w 501 2 0) 17), (w 14 1), (fillR (w 15 1) (w 501 2 0) 17), (fillR (w 16 1) 0 17), 0, 0, 0, (-1), 0, 0), ((w 911 0 0), (w 913 0 0), 0, 0, (w 912 0 0), 0, (w 912 0 0)))).1.2.2.2.2.2.1)) 106 1 (fun _ => 0)) 107 1 (fun _ => (-1))) 108 1 (fun _ => 0)) 109 1 (fun _ => (spanX lim ((w 500 2 0), (w 501 2 0), (w 502 2 0), (w 30 2), (w 32 2), (w 33 2), (w 34 2), (w 35 2), (w 36 2)) (w 31 2) ((w 420 0 0), (w 421 0 0), (w 27 0), (w 28 0), (w 29 0)) 600 (((fillR (w 13 1) (w 501 2 0) 17), (w 14 1), (fillR (w 15 1) (w 501 2 0) 17), (fillR (w 16 1) 0 17), 0, 0, 0, (-1), 0, 0), ((w 911 0 0), (w 913 0 0), 0, 0, (w 912 0 0), 0, (w 912 0 0)))).1.2.2.2.2.2.2.2.2.2)) 580 1 (fun _ => (w 911 0 0))) 581 1 (fun _ => (w 913 0 0))) 582 1 (fun _ => (spanX lim ((w 500 2 0), (w 501 2 0), (w 502 2 0), (w 30 2), (w 32 2), (w 33 2), (w 34 2), (w 35 2), (w 36 2)) (w 31 2) ((w 420 0 0), (w 421 0 0), (w 27 0), (w 28 0), (w 29 0)) 600 (((fillR (w 13 1) (w 501 2 0) 17), (w 14 1), (fillR (w 15 1) (w 501 2 0) 17), (fillR (w 16 1) 0 17), 0, 0, 0, (-1), 0, 0), ((w 911 0 0), (w 913 0 0), 0, 0, (w 912 0 0), 0, (w 912 0 0)))).2.2.2.1)) 583 1 (fun _ => (spanX lim ((w 500 2 0), (w 501 2 0), (w 502 2 0), (w 30 2), (w 32 2), (w 33 2), (w 34 2), (w 35 2), (w 36 2)) (w 31 2) ((w 420 0 0), (w 421 0 0), (w 27 0), (w 28 0), (w 29 0)) 600 (((fillR (w 13 1) (w 501 2 0) 17), (w 14 1), (fillR (w 15 1) (w 501 2 0) 17), (fillR (w 16 1) 0 17), 0, 0, 0, (-1), 0, 0), ((w 911 0 0), (w 913 0 0), 0, 0, (w 912 0 0), 0, (w 912 0 0)))).2.2.2.2.1)) 584 1 (fun _ => (spanX lim ((w 500 2 0), (w 501 2 0), (w 502 2 0), (w 30 2), (w 32 2), (w 33 2), (w 34 2), (w 35 2), (w 36 2)) (w 31 2) ((w 420 0 0), (w 421 0 0), (w 27 0), (w 28 0), (w 29 0)) 600 (((fillR (w 13 1) (w 501 2 0) 17), (w 14 1), (fillR (w 15 1) (w 501 2 0) 17), (fillR (w 16 1) 0 17), 0, 0, 0, (-1), 0, 0), ((w 911 0 0), (w 913 0 0), 0, 0, (w 912 0 0), 0, (w 912 0 0)))).2.2.2.2.2.1)) 585 1 (fun _ => (spanX lim ((w 500 2 0), (w 501 2 0), (w 502 2 0), (w 30 2), (w 32 2), (w 33 2), (w 34 2), (w 35 2), (w 36 2)) (w 31 2) ((w 420 0 0), (w 421 0 0), (w 27 0), (w 28 0), (w 29 0)) 600 (((fillR (w 13 1) (w 501 2 0) 17), (w 14 1), (fillR (w 15 1) (w 501 2 0) 17), (fillR (w 16 1) 0 17), 0, 0, 0, (-1), 0, 0), ((w 911 0 0), (w 913 0 0), 0, 0, (w 912 0 0), 0, (w 912 0 0)))).2.2.2.2.2.2.1)) 586 1 (fun _ => (spanX lim ((w 500 2 0), (w 501 2 0), (w 502 2 0), (w 30 2), (w 32 2), (w 33 2), (w 34 2), (w 35 2), (w 36 2)) (w 31 2) ((w 420 0 0), (w 421 0 0), (w 27 0), (w 28 0), (w 29 0)) 600 (((fillR (w 13 1) (w 501 2 0) 17), (w 14 1), (fillR (w 15 1) (w 501 2 0) 17), (fillR (w 16 1) 0 17), 0, 0, 0, (-1), 0, 0), ((w 911 0 0), (w 913 0 0), 0, 0, (w 912 0 0), 0, (w 912 0 0)))).2.2.2.2.2.2.2))) (by simp only [wS_s, wS_t, wS_a, ne_eq, Nat.reduceEqDiff, not_false_eq_true, wS_wS, wS_p, wS_pp, Nat.reduceLT, id_eq]) ?_
  exact v_iret C dX10_spanOfBent_50 ⟨_, (by clear C; exact spanV_ae h1 h2 _ _ _ _ (st0_ae _ _ _ _ _ _ _)), (congr (congrArg Prod.mk (kp_e (kp_S (by decide) (kp_S (by decide) (kp_S (by decide) (kp_S (by decide) (kp_S (by decide) (kp_S (by decide) (kp_S (by decide) (kp_S (by decide) (kp_S (by decide) (kp_S (by decide) (kp_S (by decide) (kp_S (by decide) (kp_S (by decide) (kp_S (by decide) (kp_S (by decide) (kp_S (by decide) (kp_S (by decide) kp_r))))))))))))))))))) rfl)⟩
abbrev P_X10_spanParted (w : Wi) (z : Wj) (k : Int32) (ti : Int32) : Int32 → WW → Prop := fun r_ u_ => ∃ (uh_ : Wi), r_ = (runP 2147483647 ((w 500 0 0), (w 501 0 0), (w 502 0 0), (w 30 0), (w 32 0), (w 33 0), (w 34 0), (w 35 0), (w 36 0)) (w 31 0) ((w 420 0 0), (w 421 0 0), (w 27 0), (w 28 0), (w 29 0)) k ti (w 911 0 0) (w 912 0 0) (w 913 0 0)) ∧ u_ = ((wB w SC1 uh_), z)
set_option maxHeartbeats 4000000 in
set_option maxRecDepth 100000 in
theorem c_X10_spanParted (E : En) (hE : q_ok E) (w : Wi) (z : Wj) (k : Int32) (ti : Int32) (h1 : 0 ≤ (w 500 0 0)) (h2 : (w 500 0 0) ≤ 16) : CtI M_X10_spanParted E [.ref (E.ad 10 0), .int k, .int ti] w z (P_X10_spanParted w z k ti) := by
  refine ctI_of (lv := [(0, .ref (E.ad 10 0)), (1, .int k), (2, .int ti)]) hE m_X10_spanParted (Nat.le_of_ble_eq_true rfl) rfl ?_
  intro K A C0
  have C : Cx K E A cX10_spanParted 3 RX10 (some .int) { frames := 4, cells := 0, slots := 0, locals := 100 } := C0
  clear C0
  refine v_aload_n C 0 dX10_spanParted_0 rfl ?_
  refine v_gR C 10 0 3 0 1 (C_m C (u_10 0 (by decide))) k_10 (by decide) x_360 (fun _ _ _ => rfl) dX10_spanParted_1 ?_
  refine v_aload_n C 0 dX10_spanParted_4 rfl ?_
  refine v_gR C 10 0 0 5 0 (C_m C (u_10 0 (by decide))) k_10 (by decide) x_357 (fun _ _ _ => rfl) dX10_spanParted_5 ?_
  refine v_vV C 0 1 [.ref (E.ad 5 0)] 1 (c_X0_start E hE _ _ 1 (by decide) 0 (by decide)   ) m_X0_start x_892 x_788 x_789 p_X0_start rfl ⟨Nat.le_of_ble_eq_true rfl, Nat.le_of_ble_eq_true rfl⟩ (C_m C (u_0 1 (by decide))) k_0 rfl (Nat.le_of_ble_eq_true rfl) dX10_spanParted_8 (fun u1 v1 hp1 => ?_)
  have hu1 := hp1
  cases hu1
  refine v_aload_n C 0 dX10_spanParted_11 rfl ?_
  refine v_gR C 10 0 3 0 1 (C_m C (u_10 0 (by decide))) k_10 (by decide) x_360 (fun _ _ _ => rfl) dX10_spanParted_12 ?_
  refine v_iload_n C 1 dX10_spanParted_15 rfl ?_
  refine v_iload_n C 2 dX10_spanParted_16 rfl ?_
  refine v_vV C 0 1 [.int k, .int ti] 2 (c_X0_partBehind E hE _ _ 1 (by decide) k ti  ) m_X0_partBehind x_919 x_920 x_921 p_X0_partBehind rfl ⟨Nat.le_of_ble_eq_true rfl, Nat.le_of_ble_eq_true rfl⟩ (C_m C (u_0 1 (by decide))) k_0 rfl (Nat.le_of_ble_eq_true rfl) dX10_spanParted_17 (fun u2 v2 hp2 => ?_)
  have hu2 := hp2
  cases hu2
  refine v_w (w2 := (wS (wS (wS (wS (wS (wS (wS (wS (wS w 13 1 (fillR (w 13 1) (w 501 0 0) 17)) 15 1 (fillR (w 15 1) (w 501 0 0) 17)) 16 1 (fillR (w 16 1) 0 17)) 104 1 (fun _ => 0)) 105 1 (fun _ => 0)) 106 1 (fun _ => 0)) 107 1 (fun _ => k)) 108 1 (fun _ => ti)) 109 1 (fun _ => 0))) (by simp only [wS_s, wS_t, wS_a, ne_eq, Nat.reduceEqDiff, not_false_eq_true, wS_wS, wS_p, wS_pp, Nat.reduceLT, id_eq]) ?_
  refine v_aload_n C 0 dX10_spanParted_20 rfl ?_
  refine v_gR C 10 0 5 6 1 (C_m C (u_10 0 (by decide))) k_10 (by decide) x_362 (fun _ _ _ => rfl) dX10_spanParted_21 ?_
  refine v_aload_n C 0 dX10_spanParted_24 rfl ?_
  refine v_gI C 10 0 11 911 (w 911 0 0) (C_m C (u_10 0 (by decide))) k_10 (by decide) rfl rfl x_368 (by simp only [wS_s, wS_t, wS_a, ne_eq, Nat.reduceEqDiff, not_false_eq_true]) dX10_spanParted_25 ?_
  refine v_aload_n C 0 dX10_spanParted_28 rfl ?_
  refine v_gI C 10 0 12 912 (w 912 0 0) (C_m C (u_10 0 (by decide))) k_10 (by decide) rfl rfl x_369 (by simp only [wS_s, wS_t, wS_a, ne_eq, Nat.reduceEqDiff, not_false_eq_true]) dX10_spanParted_29 ?_
  refine v_aload_n C 0 dX10_spanParted_32 rfl ?_
  refine v_gI C 10 0 13 913 (w 913 0 0) (C_m C (u_10 0 (by decide))) k_10 (by decide) rfl rfl x_370 (by simp only [wS_s, wS_t, wS_a, ne_eq, Nat.reduceEqDiff, not_false_eq_true]) dX10_spanParted_33 ?_
  refine v_vV C 6 1 [.int (w 911 0 0), .int (w 912 0 0), .int (w 913 0 0)] 3 (c_X6_start E hE _ _ 1 (by decide) (w 911 0 0) (w 912 0 0) (w 913 0 0)  ) m_X6_start x_893 x_846 x_847 p_X6_start rfl ⟨Nat.le_of_ble_eq_true rfl, Nat.le_of_ble_eq_true rfl⟩ (C_m C (u_6 1 (by decide))) k_6 rfl (Nat.le_of_ble_eq_true rfl) dX10_spanParted_36 (fun u3 v3 hp3 => ?_)
  have hu3 := hp3
  cases hu3
  refine v_w (w2 := (wS (wS (wS (wS (wS (wS (wS (wS (wS (wS (wS (wS (wS (wS (wS (wS w 13 1 (fillR (w 13 1) (w 501 0 0) 17)) 15 1 (fillR (w 15 1) (w 501 0 0) 17)) 16 1 (fillR (w 16 1) 0 17)) 104 1 (fun _ => 0)) 105 1 (fun _ => 0)) 106 1 (fun _ => 0)) 107 1 (fun _ => k)) 108 1 (fun _ => ti)) 109 1 (fun _ => 0)) 580 1 (fun _ => (w 911 0 0))) 581 1 (fun _ => (w 913 0 0))) 582 1 (fun _ => 0)) 583 1 (fun _ => 0)) 584 1 (fun _ => (w 912 0 0))) 585 1 (fun _ => 0)) 586 1 (fun _ => (w 912 0 0)))) (by simp only [wS_s, wS_t, wS_a, ne_eq, Nat.reduceEqDiff, not_false_eq_true, wS_wS, wS_p, wS_pp, Nat.reduceLT, id_eq]) ?_
  refine v_aload_n C 0 dX10_spanParted_39 rfl ?_
  refine v_gR C 10 0 5 6 1 (C_m C (u_10 0 (by decide))) k_10 (by decide) x_362 (fun _ _ _ => rfl) dX10_spanParted_40 ?_
  refine v_ldc C x_923 dX10_spanParted_43 ?_
  refine v_aload_n C 0 dX10_spanParted_45 rfl ?_
  refine v_gR C 10 0 0 5 0 (C_m C (u_10 0 (by decide))) k_10 (by decide) x_357 (fun _ _ _ => rfl) dX10_spanParted_46 ?_
  refine v_aload_n C 0 dX10_spanParted_49 rfl ?_
  refine v_gR C 10 0 1 4 0 (C_m C (u_10 0 (by decide))) k_10 (by decide) x_358 (fun _ _ _ => rfl) dX10_spanParted_50 ?_
  refine v_aload_n C 0 dX10_spanParted_53 rfl ?_
  refine v_gR C 10 0 3 0 1 (C_m C (u_10 0 (by decide))) k_10 (by decide) x_360 (fun _ _ _ => rfl) dX10_spanParted_54 ?_
  refine v_vI C 6 1 [.int 2147483647, .ref (E.ad 5 0), .ref (E.ad 4 0), .ref (E.ad 0 1)] 4 (c_X6_spanWithin E hE _ _ 1 (by decide) 1 (by decide) 0 (by decide) 0 (by decide) 2147483647  (by clear C; (try simp only [wS_s, wS_t, wS_a, ne_eq, Nat.reduceEqDiff, not_false_eq_true]); first | assumption | grind) (by clear C; (try simp only [wS_s, wS_t, wS_a, ne_eq, Nat.reduceEqDiff, not_false_eq_true]); first | assumption | grind)) m_X6_spanWithin x_908 x_851 x_852 p_X6_spanWithin rfl ⟨Nat.le_of_ble_eq_true rfl, Nat.le_of_ble_eq_true rfl⟩ (C_m C (u_6 1 (by decide))) k_6 rfl (Nat.le_of_ble_eq_true rfl) dX10_spanParted_57 (fun r4 u4 v4 hp4 => ?_)
  obtain ⟨hr4, hu4⟩ := hp4
  subst hr4
  cases hu4
  refine v_i (y := spanV (2147483647 : Int32) (spanX (2147483647 : Int32) ((w 500 0 0), (w 501 0 0), (w 502 0 0), (w 30 0), (w 32 0), (w 33 0), (w 34 0), (w 35 0), (w 36 0)) (w 31 0) ((w 420 0 0), (w 421 0 0), (w 27 0), (w 28 0), (w 29 0)) 600 (((fillR (w 13 1) (w 501 0 0) 17), (w 14 1), (fillR (w 15 1) (w 501 0 0) 17), (fillR (w 16 1) 0 17), 0, 0, 0, k, ti, 0), ((w 911 0 0), (w 913 0 0), 0, 0, (w 912 0 0), 0, (w 912 0 0))))) (by simp only [wS_s, wS_t, wS_a, ne_eq, Nat.reduceEqDiff, not_false_eq_true]) ?_
  refine v_w (w2 := (wS (wS (wS (wS (wS (wS (wS (wS (wS (wS (wS (wS (wS (wS (wS (wS (wS w 13 1 ((spanX (2147483647 : Int32) ((w 500 0 0), (w 501 0 0), (w 502 0 0), (w 30 0), (w 32 0), (w 33 0), (w 34 0), (w 35 0), (w 36 0)) (w 31 0) ((w 420 0 0), (w 421 0 0), (w 27 0), (w 28 0), (w 29 0)) 600 (((fillR (w 13 1) (w 501 0 0) 17), (w 14 1), (fillR (w 15 1) (w 501 0 0) 17), (fillR (w 16 1) 0 17), 0, 0, 0, k, ti, 0), ((w 911 0 0), (w 913 0 0), 0, 0, (w 912 0 0), 0, (w 912 0 0)))).1.1)) 14 1 ((spanX (2147483647 : Int32) ((w 500 0 0), (w 501 0 0), (w 502 0 0), (w 30 0), (w 32 0), (w 33 0), (w 34 0), (w 35 0), (w 36 0)) (w 31 0) ((w 420 0 0), (w 421 0 0), (w 27 0), (w 28 0), (w 29 0)) 600 (((fillR (w 13 1) (w 501 0 0) 17), (w 14 1), (fillR (w 15 1) (w 501 0 0) 17), (fillR (w 16 1) 0 17), 0, 0, 0, k, ti, 0), ((w 911 0 0), (w 913 0 0), 0, 0, (w 912 0 0), 0, (w 912 0 0)))).1.2.1)) 15 1 ((spanX (2147483647 : Int32) ((w 500 0 0), (w 501 0 0), (w 502 0 0), (w 30 0), (w 32 0), (w 33 0), (w 34 0), (w 35 0), (w 36 0)) (w 31 0) ((w 420 0 0), (w 421 0 0), (w 27 0), (w 28 0), (w 29 0)) 600 (((fillR (w 13 1) (w 501 0 0) 17), (w 14 1), (fillR (w 15 1) (w 501 0 0) 17), (fillR (w 16 1) 0 17), 0, 0, 0, k, ti, 0), ((w 911 0 0), (w 913 0 0), 0, 0, (w 912 0 0), 0, (w 912 0 0)))).1.2.2.1)) 16 1 ((spanX (2147483647 : Int32) ((w 500 0 0), (w 501 0 0), (w 502 0 0), (w 30 0), (w 32 0), (w 33 0), (w 34 0), (w 35 0), (w 36 0)) (w 31 0) ((w 420 0 0), (w 421 0 0), (w 27 0), (w 28 0), (w 29 0)) 600 (((fillR (w 13 1) (w 501 0 0) 17), (w 14 1), (fillR (w 15 1) (w 501 0 0) 17), (fillR (w 16 1) 0 17), 0, 0, 0, k, ti, 0), ((w 911 0 0), (w 913 0 0), 0, 0, (w 912 0 0), 0, (w 912 0 0)))).1.2.2.2.1)) 104 1 (fun _ => (spanX (2147483647 : Int32) ((w 500 0 0), (w 501 0 0), (w 502 0 0), (w 30 0), (w 32 0), (w 33 0), (w 34 0), (w 35 0), (w 36 0)) (w 31 0) ((w 420 0 0), (w 421 0 0), (w 27 0), (w 28 0), (w 29 0)) 600 (((fillR (w 13 1) (w 501 0 0) 17), (w 14 1), (fillR (w 15 1) (w 501 0 0) 17), (fillR (w 16 1) 0 17), 0, 0, 0, k, ti, 0), ((w 911 0 0), (w 913 0 0), 0, 0, (w 912 0 0), 0, (w 912 0 0)))).1.2.2.2.2.1)) 105 1 (fun _ => (spanX (2147483647 : Int32) ((w 500 0 0), (w 501 0 0), (w 502 0 0), (w 30 0), (w 32 0), (w 33 0), (w 34 0), (w 35 0), (w 36 0)) (w 31 0) ((w 420 0 0), (w 421 0 0), (w 27 0), (w 28 0), (w 29 0)) 600 (((fillR (w 13 1) (w 501 0 0) 17), (w 14 1), (fillR (w 15 1) (w 501 0 0) 17), (fillR (w 16 1) 0 17), 0, 0, 0, k, ti, 0), ((w 911 0 0), (w 913 0 0), 0, 0, (w 912 0 0), 0, (w 912 0 0)))).1.2.2.2.2.2.1)) 106 1 (fun _ => 0)) 107 1 (fun _ => k)) 108 1 (fun _ => ti)) 109 1 (fun _ => (spanX (2147483647 : Int32) ((w 500 0 0), (w 501 0 0), (w 502 0 0), (w 30 0), (w 32 0), (w 33 0), (w 34 0), (w 35 0), (w 36 0)) (w 31 0) ((w 420 0 0), (w 421 0 0), (w 27 0), (w 28 0), (w 29 0)) 600 (((fillR (w 13 1) (w 501 0 0) 17), (w 14 1), (fillR (w 15 1) (w 501 0 0) 17), (fillR (w 16 1) 0 17), 0, 0, 0, k, ti, 0), ((w 911 0 0), (w 913 0 0), 0, 0, (w 912 0 0), 0, (w 912 0 0)))).1.2.2.2.2.2.2.2.2.2)) 580 1 (fun _ => (w 911 0 0))) 581 1 (fun _ => (w 913 0 0))) 582 1 (fun _ => (spanX (2147483647 : Int32) ((w 500 0 0), (w 501 0 0), (w 502 0 0), (w 30 0), (w 32 0), (w 33 0), (w 34 0), (w 35 0), (w 36 0)) (w 31 0) ((w 420 0 0), (w 421 0 0), (w 27 0), (w 28 0), (w 29 0)) 600 (((fillR (w 13 1) (w 501 0 0) 17), (w 14 1), (fillR (w 15 1) (w 501 0 0) 17), (fillR (w 16 1) 0 17), 0, 0, 0, k, ti, 0), ((w 911 0 0), (w 913 0 0), 0, 0, (w 912 0 0), 0, (w 912 0 0)))).2.2.2.1)) 583 1 (fun _ => (spanX (2147483647 : Int32) ((w 500 0 0), (w 501 0 0), (w 502 0 0), (w 30 0), (w 32 0), (w 33 0), (w 34 0), (w 35 0), (w 36 0)) (w 31 0) ((w 420 0 0), (w 421 0 0), (w 27 0), (w 28 0), (w 29 0)) 600 (((fillR (w 13 1) (w 501 0 0) 17), (w 14 1), (fillR (w 15 1) (w 501 0 0) 17), (fillR (w 16 1) 0 17), 0, 0, 0, k, ti, 0), ((w 911 0 0), (w 913 0 0), 0, 0, (w 912 0 0), 0, (w 912 0 0)))).2.2.2.2.1)) 584 1 (fun _ => (spanX (2147483647 : Int32) ((w 500 0 0), (w 501 0 0), (w 502 0 0), (w 30 0), (w 32 0), (w 33 0), (w 34 0), (w 35 0), (w 36 0)) (w 31 0) ((w 420 0 0), (w 421 0 0), (w 27 0), (w 28 0), (w 29 0)) 600 (((fillR (w 13 1) (w 501 0 0) 17), (w 14 1), (fillR (w 15 1) (w 501 0 0) 17), (fillR (w 16 1) 0 17), 0, 0, 0, k, ti, 0), ((w 911 0 0), (w 913 0 0), 0, 0, (w 912 0 0), 0, (w 912 0 0)))).2.2.2.2.2.1)) 585 1 (fun _ => (spanX (2147483647 : Int32) ((w 500 0 0), (w 501 0 0), (w 502 0 0), (w 30 0), (w 32 0), (w 33 0), (w 34 0), (w 35 0), (w 36 0)) (w 31 0) ((w 420 0 0), (w 421 0 0), (w 27 0), (w 28 0), (w 29 0)) 600 (((fillR (w 13 1) (w 501 0 0) 17), (w 14 1), (fillR (w 15 1) (w 501 0 0) 17), (fillR (w 16 1) 0 17), 0, 0, 0, k, ti, 0), ((w 911 0 0), (w 913 0 0), 0, 0, (w 912 0 0), 0, (w 912 0 0)))).2.2.2.2.2.2.1)) 586 1 (fun _ => (spanX (2147483647 : Int32) ((w 500 0 0), (w 501 0 0), (w 502 0 0), (w 30 0), (w 32 0), (w 33 0), (w 34 0), (w 35 0), (w 36 0)) (w 31 0) ((w 420 0 0), (w 421 0 0), (w 27 0), (w 28 0), (w 29 0)) 600 (((fillR (w 13 1) (w 501 0 0) 17), (w 14 1), (fillR (w 15 1) (w 501 0 0) 17), (fillR (w 16 1) 0 17), 0, 0, 0, k, ti, 0), ((w 911 0 0), (w 913 0 0), 0, 0, (w 912 0 0), 0, (w 912 0 0)))).2.2.2.2.2.2.2))) (by simp only [wS_s, wS_t, wS_a, ne_eq, Nat.reduceEqDiff, not_false_eq_true, wS_wS, wS_p, wS_pp, Nat.reduceLT, id_eq]) ?_
  exact v_iret C dX10_spanParted_60 ⟨_, (by clear C; exact spanV_ae h1 h2 _ _ _ _ (st0_ae _ _ _ _ _ _ _)), (congr (congrArg Prod.mk (kp_e (kp_S (by decide) (kp_S (by decide) (kp_S (by decide) (kp_S (by decide) (kp_S (by decide) (kp_S (by decide) (kp_S (by decide) (kp_S (by decide) (kp_S (by decide) (kp_S (by decide) (kp_S (by decide) (kp_S (by decide) (kp_S (by decide) (kp_S (by decide) (kp_S (by decide) (kp_S (by decide) (kp_S (by decide) kp_r))))))))))))))))))) rfl)⟩
abbrev P_X10_bestAt (w : Wi) (z : Wj) (k : Int32) : Int32 → WW → Prop := fun r_ u_ => r_ = (if 0 ≤ k ∧ k < (w 909 0 0) ∧ k < 6 then (w 39 0) (k).toNatClampNeg else (-1)) ∧ u_ = (w, z)
set_option maxHeartbeats 4000000 in
set_option maxRecDepth 100000 in
theorem c_X10_bestAt (E : En) (hE : q_ok E) (w : Wi) (z : Wj) (k : Int32) : CtI M_X10_bestAt E [.ref (E.ad 10 0), .int k] w z (P_X10_bestAt w z k) := by
  refine ctI_of (lv := [(0, .ref (E.ad 10 0)), (1, .int k)]) hE m_X10_bestAt (Nat.le_of_ble_eq_true rfl) rfl ?_
  intro K A C0
  have C : Cx K E A cX10_bestAt 2 RX10 (some .int) { frames := 0, cells := 0, slots := 0, locals := 0 } := C0
  clear C0
  refine v_iload_n C 1 dX10_bestAt_0 rfl ?_
  refine v_if_lt C 27 dX10_bestAt_1 (by decide) (fun c_1 => ?_) (fun c_1 => ?_)
  · refine v_iconst (v := (-1)) C dX10_bestAt_27 (by decide) ?_
    exact v_iret C dX10_bestAt_28 ⟨(by clear C; grind), (congr (congrArg Prod.mk rfl) rfl)⟩
  · refine v_iload_n C 1 dX10_bestAt_4 rfl ?_
    refine v_aload_n C 0 dX10_bestAt_5 rfl ?_
    refine v_gI C 10 0 9 909 (w 909 0 0) (C_m C (u_10 0 (by decide))) k_10 (by decide) rfl rfl x_366 rfl dX10_bestAt_6 ?_
    refine v_ic_ge C 27 dX10_bestAt_9 (by decide) (fun c_9 => ?_) (fun c_9 => ?_)
    · refine v_iconst (v := (-1)) C dX10_bestAt_27 (by decide) ?_
      exact v_iret C dX10_bestAt_28 ⟨(by clear C; grind), (congr (congrArg Prod.mk rfl) rfl)⟩
    · refine v_iload_n C 1 dX10_bestAt_12 rfl ?_
      refine v_bipush (v := 6) C dX10_bestAt_13 (by decide) ?_
      refine v_ic_ge C 27 dX10_bestAt_15 (by decide) (fun c_15 => ?_) (fun c_15 => ?_)
      · refine v_iconst (v := (-1)) C dX10_bestAt_27 (by decide) ?_
        exact v_iret C dX10_bestAt_28 ⟨(by clear C; grind), (congr (congrArg Prod.mk rfl) rfl)⟩
      · refine v_aload_n C 0 dX10_bestAt_18 rfl ?_
        refine v_gR C 10 0 8 39 0 (C_m C (u_10 0 (by decide))) k_10 (by decide) x_365 (fun _ _ _ => rfl) dX10_bestAt_19 ?_
        refine v_iload_n C 1 dX10_bestAt_22 rfl ?_
        refine v_iald C 39 0 (C_m C (u_39 0 (by decide))) ⟨by decide, rfl, rfl⟩ (v_in (N := 6) (by decide) (by clear C; grind) (by clear C; grind)) dX10_bestAt_23 ?_
        refine v_goto C 28 dX10_bestAt_24 (by decide) ?_
        exact v_iret C dX10_bestAt_28 ⟨(by clear C; grind), (congr (congrArg Prod.mk rfl) rfl)⟩
abbrev P_X10_keepOrder (w : Wi) (z : Wj) : WW → Prop := fun u_ => u_ = ((wS (wS w 39 0 (va_cpy (w 38 0) (w 39 0) 0 0 6)) 909 0 (fun _ => (w 500 0 0))), z)
set_option maxHeartbeats 4000000 in
set_option maxRecDepth 100000 in
theorem c_X10_keepOrder (E : En) (hE : q_ok E) (w : Wi) (z : Wj) : CtV M_X10_keepOrder E [.ref (E.ad 10 0)] w z (P_X10_keepOrder w z) := by
  refine ctV_of (lv := [(0, .ref (E.ad 10 0))]) hE m_X10_keepOrder (Nat.le_of_ble_eq_true rfl) rfl ?_
  intro K A C0
  have C : Cx K E A cX10_keepOrder 1 RX10 none { frames := 1, cells := 0, slots := 0, locals := 26 } := C0
  clear C0
  refine v_aload_n C 0 dX10_keepOrder_0 rfl ?_
  refine v_aload_n C 0 dX10_keepOrder_1 rfl ?_
  refine v_gR C 10 0 0 5 0 (C_m C (u_10 0 (by decide))) k_10 (by decide) x_357 (fun _ _ _ => rfl) dX10_keepOrder_2 ?_
  refine v_gI C 5 0 0 500 (w 500 0 0) (C_m C (u_5 0 (by decide))) k_5 (by decide) rfl rfl x_173 rfl dX10_keepOrder_5 ?_
  refine v_pI C 10 0 9 909 (C_m C (u_10 0 (by decide))) k_10 ty_10 (by decide) rfl ⟨rfl, rfl⟩ x_366 rfl rfl dX10_keepOrder_8 ?_
  refine v_aload_n C 0 dX10_keepOrder_11 rfl ?_
  refine v_gR C 10 0 7 38 0 (C_m C (u_10 0 (by decide))) k_10 (by decide) x_364 (fun _ _ _ => rfl) dX10_keepOrder_12 ?_
  refine v_iconst (v := 0) C dX10_keepOrder_15 (by decide) ?_
  refine v_aload_n C 0 dX10_keepOrder_16 rfl ?_
  refine v_gR C 10 0 8 39 0 (C_m C (u_10 0 (by decide))) k_10 (by decide) x_365 (fun _ _ _ => rfl) dX10_keepOrder_17 ?_
  refine v_iconst (v := 0) C dX10_keepOrder_20 (by decide) ?_
  refine v_bipush (v := 6) C dX10_keepOrder_21 (by decide) ?_
  refine v_copyi C 38 0 39 0 x_941 x_777 x_776 x_90 (C_m C (u_38 0 (by decide))) ⟨by decide, rfl, rfl⟩ (C_m C (u_39 0 (by decide))) ⟨by decide, rfl, rfl⟩ (by decide) (by decide) (by decide) (by decide) (by decide) ⟨by decide, Nat.le_of_ble_eq_true rfl⟩ dX10_keepOrder_23 ?_
  refine v_w (w2 := (wS (wS w 39 0 (va_cpy (w 38 0) (w 39 0) 0 0 6)) 909 0 (fun _ => (w 500 0 0)))) (by first | rfl | (simp only [wS_s, wS_t, wS_a, ne_eq, Nat.reduceEqDiff, not_false_eq_true, wS_wS, wS_p, wS_pp, Nat.reduceLT, id_eq]; try rfl)) ?_
  exact v_vret C dX10_keepOrder_26 (congr (congrArg Prod.mk rfl) rfl)
abbrev P_X10_swap (w : Wi) (z : Wj) (i : Int32) (j : Int32) : WW → Prop := fun u_ => u_ = ((wS w 38 0 (if (0 ≤ i ∧ i < 6) ∧ 0 ≤ j ∧ j < 6 then upd (upd (w 38 0) (i).toNatClampNeg ((w 38 0) (j).toNatClampNeg)) (j).toNatClampNeg ((w 38 0) (i).toNatClampNeg) else (w 38 0))), z)
set_option maxHeartbeats 4000000 in
set_option maxRecDepth 100000 in
theorem c_X10_swap (E : En) (hE : q_ok E) (w : Wi) (z : Wj) (i : Int32) (j : Int32) : CtV M_X10_swap E [.ref (E.ad 10 0), .int i, .int j] w z (P_X10_swap w z i j) := by
  refine ctV_of (lv := [(0, .ref (E.ad 10 0)), (1, .int i), (2, .int j)]) hE m_X10_swap (Nat.le_of_ble_eq_true rfl) rfl ?_
  intro K A C0
  have C : Cx K E A cX10_swap 4 RX10 none { frames := 0, cells := 0, slots := 0, locals := 0 } := C0
  clear C0
  refine v_iload_n C 1 dX10_swap_0 rfl ?_
  refine v_if_lt C 46 dX10_swap_1 (by decide) (fun c_1 => ?_) (fun c_1 => ?_)
  · refine v_w (wS_id _ 38 0).symm ?_
    refine v_w (w2 := (wS w 38 0 (w 38 0))) (by simp only [wS_s, wS_t, wS_a, ne_eq, Nat.reduceEqDiff, not_false_eq_true, wS_wS, wS_p, wS_pp, Nat.reduceLT, id_eq]) ?_
    exact v_vret C dX10_swap_46 (congr (congrArg Prod.mk (wS_eq rfl (by clear C; grind))) rfl)
  · refine v_iload_n C 1 dX10_swap_4 rfl ?_
    refine v_bipush (v := 6) C dX10_swap_5 (by decide) ?_
    refine v_ic_ge C 46 dX10_swap_7 (by decide) (fun c_7 => ?_) (fun c_7 => ?_)
    · refine v_w (wS_id _ 38 0).symm ?_
      refine v_w (w2 := (wS w 38 0 (w 38 0))) (by simp only [wS_s, wS_t, wS_a, ne_eq, Nat.reduceEqDiff, not_false_eq_true, wS_wS, wS_p, wS_pp, Nat.reduceLT, id_eq]) ?_
      exact v_vret C dX10_swap_46 (congr (congrArg Prod.mk (wS_eq rfl (by clear C; grind))) rfl)
    · refine v_iload_n C 2 dX10_swap_10 rfl ?_
      refine v_if_lt C 46 dX10_swap_11 (by decide) (fun c_11 => ?_) (fun c_11 => ?_)
      · refine v_w (wS_id _ 38 0).symm ?_
        refine v_w (w2 := (wS w 38 0 (w 38 0))) (by simp only [wS_s, wS_t, wS_a, ne_eq, Nat.reduceEqDiff, not_false_eq_true, wS_wS, wS_p, wS_pp, Nat.reduceLT, id_eq]) ?_
        exact v_vret C dX10_swap_46 (congr (congrArg Prod.mk (wS_eq rfl (by clear C; grind))) rfl)
      · refine v_iload_n C 2 dX10_swap_14 rfl ?_
        refine v_bipush (v := 6) C dX10_swap_15 (by decide) ?_
        refine v_ic_ge C 46 dX10_swap_17 (by decide) (fun c_17 => ?_) (fun c_17 => ?_)
        · refine v_w (wS_id _ 38 0).symm ?_
          refine v_w (w2 := (wS w 38 0 (w 38 0))) (by simp only [wS_s, wS_t, wS_a, ne_eq, Nat.reduceEqDiff, not_false_eq_true, wS_wS, wS_p, wS_pp, Nat.reduceLT, id_eq]) ?_
          exact v_vret C dX10_swap_46 (congr (congrArg Prod.mk (wS_eq rfl (by clear C; grind))) rfl)
        · refine v_aload_n C 0 dX10_swap_20 rfl ?_
          refine v_gR C 10 0 7 38 0 (C_m C (u_10 0 (by decide))) k_10 (by decide) x_364 (fun _ _ _ => rfl) dX10_swap_21 ?_
          refine v_iload_n C 1 dX10_swap_24 rfl ?_
          refine v_iald C 38 0 (C_m C (u_38 0 (by decide))) ⟨by decide, rfl, rfl⟩ (v_in (N := 6) (by decide) (by clear C; grind) (by clear C; grind)) dX10_swap_25 ?_
          refine v_istore_n (lv2 := [(3, .int ((w 38 0) i.toNatClampNeg)), (0, .ref (E.ad 10 0)), (1, .int i), (2, .int j)]) C dX10_swap_26 rfl (by decide) rfl ?_
          refine v_aload_n C 1 dX10_swap_27 rfl ?_
          refine v_gR C 10 0 7 38 0 (C_m C (u_10 0 (by decide))) k_10 (by decide) x_364 (fun _ _ _ => rfl) dX10_swap_28 ?_
          refine v_iload_n C 2 dX10_swap_31 rfl ?_
          refine v_aload_n C 1 dX10_swap_32 rfl ?_
          refine v_gR C 10 0 7 38 0 (C_m C (u_10 0 (by decide))) k_10 (by decide) x_364 (fun _ _ _ => rfl) dX10_swap_33 ?_
          refine v_iload_n C 3 dX10_swap_36 rfl ?_
          refine v_iald C 38 0 (C_m C (u_38 0 (by decide))) ⟨by decide, rfl, rfl⟩ (v_in (N := 6) (by decide) (by clear C; grind) (by clear C; grind)) dX10_swap_37 ?_
          refine v_iast C 38 0 (C_m C (u_38 0 (by decide))) ⟨by decide, rfl, rfl⟩ (v_in (N := 6) (by decide) (by clear C; grind) (by clear C; grind)) dX10_swap_38 ?_
          refine v_aload_n C 1 dX10_swap_39 rfl ?_
          refine v_gR C 10 0 7 38 0 (C_m C (u_10 0 (by decide))) k_10 (by decide) x_364 (fun _ _ _ => rfl) dX10_swap_40 ?_
          refine v_iload_n C 3 dX10_swap_43 rfl ?_
          refine v_iload_n C 0 dX10_swap_44 rfl ?_
          refine v_iast C 38 0 (C_m C (u_38 0 (by decide))) ⟨by decide, rfl, rfl⟩ (v_in (N := 6) (by decide) (by clear C; grind) (by clear C; grind)) dX10_swap_45 ?_
          refine v_w (w2 := (wS w 38 0 (upd (upd (w 38 0) i.toNatClampNeg ((w 38 0) j.toNatClampNeg)) j.toNatClampNeg ((w 38 0) i.toNatClampNeg)))) (by simp only [wS_s, wS_t, wS_a, ne_eq, Nat.reduceEqDiff, not_false_eq_true, wS_wS, wS_p, wS_pp, Nat.reduceLT, id_eq]) ?_
          exact v_vret C dX10_swap_46 (congr (congrArg Prod.mk (wS_eq rfl (by clear C; grind))) rfl)
abbrev P_X10_firstOrder (w : Wi) (z : Wj) : WW → Prop := fun u_ => u_ = ((wS (wS (wS (wS (wS (wS (wS (wS (wS (wS (wS w 30 2 (cpR (w 30 2) (w 30 0) ((w 500 0 0) + 1).toNatClampNeg)) 31 2 (cpR (w 31 2) (w 31 0) ((w 500 0 0) + 1).toNatClampNeg)) 32 2 (cpR (w 32 2) (w 32 0) ((w 500 0 0) + 1).toNatClampNeg)) 33 2 (cpR (w 33 2) (w 33 0) ((w 500 0 0) + 1).toNatClampNeg)) 34 2 (cpR (w 34 2) (w 34 0) ((w 500 0 0) + 1).toNatClampNeg)) 35 2 (cpR (w 35 2) (w 35 0) ((w 500 0 0) + 1).toNatClampNeg)) 36 2 (cpR (w 36 2) (w 36 0) ((w 500 0 0) + 1).toNatClampNeg)) 38 0 (ordR (w 38 0) 6)) 500 2 (fun _ => (w 500 0 0))) 501 2 (fun _ => (w 501 0 0))) 502 2 (fun _ => (w 502 0 0))), z)
set_option maxHeartbeats 4000000 in
set_option maxRecDepth 100000 in
theorem c_X10_firstOrder (E : En) (hE : q_ok E) (w : Wi) (z : Wj) (h1 : 0 ≤ (w 500 0 0)) (h2 : (w 500 0 0) ≤ 16) : CtV M_X10_firstOrder E [.ref (E.ad 10 0)] w z (P_X10_firstOrder w z) := by
  refine ctV_of (lv := [(0, .ref (E.ad 10 0))]) hE m_X10_firstOrder (Nat.le_of_ble_eq_true rfl) rfl ?_
  intro K A C0
  have C : Cx K E A cX10_firstOrder 2 RX10 none { frames := 3, cells := 0, slots := 0, locals := 66 } := C0
  clear C0
  refine v_aload_n C 0 dX10_firstOrder_0 rfl ?_
  refine v_gR C 10 0 2 5 2 (C_m C (u_10 0 (by decide))) k_10 (by decide) x_359 (fun _ _ _ => rfl) dX10_firstOrder_1 ?_
  refine v_aload_n C 0 dX10_firstOrder_4 rfl ?_
  refine v_gR C 10 0 0 5 0 (C_m C (u_10 0 (by decide))) k_10 (by decide) x_357 (fun _ _ _ => rfl) dX10_firstOrder_5 ?_
  refine v_vV C 5 2 [.ref (E.ad 5 0)] 1 (c_X5_copyFrom E hE _ _ 2 (by decide) 0 (by decide)  (by decide) (by clear C; first | assumption | grind) (by clear C; first | assumption | grind)) m_X5_copyFrom x_936 x_722 x_723 p_X5_copyFrom rfl ⟨Nat.le_of_ble_eq_true rfl, Nat.le_of_ble_eq_true rfl⟩ (C_m C (u_5 2 (by decide))) k_5 rfl (Nat.le_of_ble_eq_true rfl) dX10_firstOrder_8 (fun u1 v1 hp1 => ?_)
  have hu1 := hp1
  cases hu1
  refine v_iconst (v := 0) C dX10_firstOrder_11 (by decide) ?_
  refine v_istore_n (lv2 := [(1, .int 0), (0, .ref (E.ad 10 0))]) C dX10_firstOrder_12 rfl (by decide) rfl ?_
  have hL13 : ∀ (n_ : Nat) (i : Int32) (O : Row), (6 - i).toNatClampNeg < n_ → (0 ≤ i ∧ i ≤ 6 ∧ O = ordR (w 38 0) i.toNatClampNeg) → V K E A 2 (QV K E A (P_X10_firstOrder w z)) 13 [(1, .int i), (0, .ref (E.ad 10 0))] [] (wS (wS (wS (wS (wS (wS (wS (wS (wS (wS (wS w 30 2 (cpR (w 30 2) (w 30 0) ((w 500 0 0) + 1).toNatClampNeg)) 31 2 (cpR (w 31 2) (w 31 0) ((w 500 0 0) + 1).toNatClampNeg)) 32 2 (cpR (w 32 2) (w 32 0) ((w 500 0 0) + 1).toNatClampNeg)) 33 2 (cpR (w 33 2) (w 33 0) ((w 500 0 0) + 1).toNatClampNeg)) 34 2 (cpR (w 34 2) (w 34 0) ((w 500 0 0) + 1).toNatClampNeg)) 35 2 (cpR (w 35 2) (w 35 0) ((w 500 0 0) + 1).toNatClampNeg)) 36 2 (cpR (w 36 2) (w 36 0) ((w 500 0 0) + 1).toNatClampNeg)) 38 0 O) 500 2 (fun _ => (w 500 0 0))) 501 2 (fun _ => (w 501 0 0))) 502 2 (fun _ => (w 502 0 0))) z := by
    intro n_
    induction n_ with
    | zero => intro i O hm_; exact absurd hm_ (Nat.not_lt_zero _)
    | succ n_ ih_13 =>
      intro i O hm_ hinv
      obtain ⟨g1, g2, g3⟩ := hinv
      refine v_iload_n C 0 dX10_firstOrder_13 rfl ?_
      refine v_bipush (v := 6) C dX10_firstOrder_14 (by decide) ?_
      refine v_ic_ge C 34 dX10_firstOrder_16 (by decide) (fun c_16 => ?_) (fun c_16 => ?_)
      · exact v_vret C dX10_firstOrder_34 (congr (congrArg Prod.mk (wS_eq (wS_eq (wS_eq (wS_eq (wS_eq (wS_eq (wS_eq (wS_eq (wS_eq (wS_eq (wS_eq rfl rfl) rfl) rfl) rfl) rfl) rfl) rfl) (by clear C ih_13; have hi : i = 6 := (by grind); subst hi; exact g3)) rfl) rfl) rfl)) rfl)
      · refine v_aload_n C 1 dX10_firstOrder_19 rfl ?_
        refine v_gR C 10 0 7 38 0 (C_m C (u_10 0 (by decide))) k_10 (by decide) x_364 (fun _ _ _ => rfl) dX10_firstOrder_20 ?_
        refine v_iload_n C 0 dX10_firstOrder_23 rfl ?_
        refine v_iload_n C 0 dX10_firstOrder_24 rfl ?_
        refine v_iconst (v := 1) C dX10_firstOrder_25 (by decide) ?_
        refine v_iadd C dX10_firstOrder_26 ?_
        refine v_iast C 38 0 (C_m C (u_38 0 (by decide))) ⟨by decide, rfl, rfl⟩ (v_in (N := 6) (by decide) (by clear C ih_13; grind) (by clear C ih_13; grind)) dX10_firstOrder_27 ?_
        refine v_iinc (v := i + 1) (lv2 := [(1, .int (i + 1)), (0, .ref (E.ad 10 0))]) C 0 dX10_firstOrder_28 rfl rfl (by decide) rfl ?_
        refine v_goto C 13 dX10_firstOrder_31 (by decide) ?_
        refine v_w (w2 := (wS (wS (wS (wS (wS (wS (wS (wS (wS (wS (wS w 30 2 (cpR (w 30 2) (w 30 0) ((w 500 0 0) + 1).toNatClampNeg)) 31 2 (cpR (w 31 2) (w 31 0) ((w 500 0 0) + 1).toNatClampNeg)) 32 2 (cpR (w 32 2) (w 32 0) ((w 500 0 0) + 1).toNatClampNeg)) 33 2 (cpR (w 33 2) (w 33 0) ((w 500 0 0) + 1).toNatClampNeg)) 34 2 (cpR (w 34 2) (w 34 0) ((w 500 0 0) + 1).toNatClampNeg)) 35 2 (cpR (w 35 2) (w 35 0) ((w 500 0 0) + 1).toNatClampNeg)) 36 2 (cpR (w 36 2) (w 36 0) ((w 500 0 0) + 1).toNatClampNeg)) 38 0 (upd O i.toNatClampNeg (i + 1))) 500 2 (fun _ => (w 500 0 0))) 501 2 (fun _ => (w 501 0 0))) 502 2 (fun _ => (w 502 0 0)))) (by simp only [wS_s, wS_t, wS_a, ne_eq, Nat.reduceEqDiff, not_false_eq_true, wS_wS, wS_p, wS_pp, Nat.reduceLT, id_eq]) ?_
        exact ih_13 (i + 1) (upd O i.toNatClampNeg (i + 1)) (by clear C ih_13; exact Nat.lt_of_lt_of_le (m_up (by grind) (by grind)) (Nat.le_of_lt_succ hm_)) (by clear C ih_13; exact ⟨by grind, by grind, by rw [cl_succ g1 (by grind), ← ordR_s _ g1 (by grind), g3]⟩)
  refine v_w (wS_id _ 38 0).symm ?_
  refine v_w (w2 := (wS (wS (wS (wS (wS (wS (wS (wS (wS (wS (wS w 30 2 (cpR (w 30 2) (w 30 0) ((w 500 0 0) + 1).toNatClampNeg)) 31 2 (cpR (w 31 2) (w 31 0) ((w 500 0 0) + 1).toNatClampNeg)) 32 2 (cpR (w 32 2) (w 32 0) ((w 500 0 0) + 1).toNatClampNeg)) 33 2 (cpR (w 33 2) (w 33 0) ((w 500 0 0) + 1).toNatClampNeg)) 34 2 (cpR (w 34 2) (w 34 0) ((w 500 0 0) + 1).toNatClampNeg)) 35 2 (cpR (w 35 2) (w 35 0) ((w 500 0 0) + 1).toNatClampNeg)) 36 2 (cpR (w 36 2) (w 36 0) ((w 500 0 0) + 1).toNatClampNeg)) 38 0 (w 38 0)) 500 2 (fun _ => (w 500 0 0))) 501 2 (fun _ => (w 501 0 0))) 502 2 (fun _ => (w 502 0 0)))) (by simp only [wS_s, wS_t, wS_a, ne_eq, Nat.reduceEqDiff, not_false_eq_true, wS_wS, wS_p, wS_pp, Nat.reduceLT, id_eq]) ?_
  exact hL13 _ 0 (w 38 0) (Nat.lt_succ_self _) (by clear C hL13; exact ⟨by decide, by decide, (ordR_0 _).symm⟩)
abbrev P_X10_layOrder (w : Wi) (z : Wj) : WW → Prop := fun u_ => u_ = ((wS (wS (wS (wS (wS (wS (wS w 30 2 (layR (w 30 2) (w 30 0) (w 38 0) ((w 500 0 0)).toNatClampNeg)) 31 2 (layR (w 31 2) (w 31 0) (w 38 0) ((w 500 0 0)).toNatClampNeg)) 32 2 (layR (w 32 2) (w 32 0) (w 38 0) ((w 500 0 0)).toNatClampNeg)) 33 2 (layR (w 33 2) (w 33 0) (w 38 0) ((w 500 0 0)).toNatClampNeg)) 34 2 (layR (w 34 2) (w 34 0) (w 38 0) ((w 500 0 0)).toNatClampNeg)) 35 2 (layR (w 35 2) (w 35 0) (w 38 0) ((w 500 0 0)).toNatClampNeg)) 36 2 (layR (w 36 2) (w 36 0) (w 38 0) ((w 500 0 0)).toNatClampNeg)), z)
set_option maxHeartbeats 4000000 in
set_option maxRecDepth 100000 in
theorem c_X10_layOrder (E : En) (hE : q_ok E) (w : Wi) (z : Wj) (h1 : 0 ≤ (w 500 0 0)) (h2 : (w 500 0 0) ≤ 6) (h3 : (w 500 2 0) = (w 500 0 0)) (h4 : ∀ k, k < ((w 500 0 0)).toNatClampNeg → 1 ≤ (w 38 0) k ∧ (w 38 0) k ≤ (w 500 0 0)) : CtV M_X10_layOrder E [.ref (E.ad 10 0)] w z (P_X10_layOrder w z) := by
  refine ctV_of (lv := [(0, .ref (E.ad 10 0))]) hE m_X10_layOrder (Nat.le_of_ble_eq_true rfl) rfl ?_
  intro K A C0
  have C : Cx K E A cX10_layOrder 2 RX10 none { frames := 2, cells := 0, slots := 0, locals := 44 } := C0
  clear C0
  refine v_iconst (v := 0) C dX10_layOrder_0 (by decide) ?_
  refine v_istore_n (lv2 := [(1, .int 0), (0, .ref (E.ad 10 0))]) C dX10_layOrder_1 rfl (by decide) rfl ?_
  have hL2 : ∀ (n_ : Nat) (i : Int32) (rkind : Row) (rweight : Row) (rout : Row) (rkeep : Row) (rleak : Row) (rhose : Row) (rstuck : Row), (6 - i).toNatClampNeg < n_ → (0 ≤ i ∧ i ≤ (w 500 0 0) ∧ rkind = layR (w 30 2) (w 30 0) (w 38 0) i.toNatClampNeg ∧ rweight = layR (w 31 2) (w 31 0) (w 38 0) i.toNatClampNeg ∧ rout = layR (w 32 2) (w 32 0) (w 38 0) i.toNatClampNeg ∧ rkeep = layR (w 33 2) (w 33 0) (w 38 0) i.toNatClampNeg ∧ rleak = layR (w 34 2) (w 34 0) (w 38 0) i.toNatClampNeg ∧ rhose = layR (w 35 2) (w 35 0) (w 38 0) i.toNatClampNeg ∧ rstuck = layR (w 36 2) (w 36 0) (w 38 0) i.toNatClampNeg) → V K E A 2 (QV K E A (P_X10_layOrder w z)) 2 [(1, .int i), (0, .ref (E.ad 10 0))] [] (wS (wS (wS (wS (wS (wS (wS w 30 2 rkind) 31 2 rweight) 32 2 rout) 33 2 rkeep) 34 2 rleak) 35 2 rhose) 36 2 rstuck) z := by
    intro n_
    induction n_ with
    | zero => intro i rkind rweight rout rkeep rleak rhose rstuck hm_; exact absurd hm_ (Nat.not_lt_zero _)
    | succ n_ ih_2 =>
      intro i rkind rweight rout rkeep rleak rhose rstuck hm_ hinv
      obtain ⟨g1, g2, ekind, eweight, eout, ekeep, eleak, ehose, estuck⟩ := hinv
      have ho : i < (w 500 0 0) → 1 ≤ (w 38 0) i.toNatClampNeg ∧ (w 38 0) i.toNatClampNeg ≤ (w 500 0 0) := fun q => h4 _ ((cl_lt g1 h1).mpr q)
      refine v_iload_n C 0 dX10_layOrder_2 rfl ?_
      refine v_aload_n C 1 dX10_layOrder_3 rfl ?_
      refine v_gR C 10 0 0 5 0 (C_m C (u_10 0 (by decide))) k_10 (by decide) x_357 (fun _ _ _ => rfl) dX10_layOrder_4 ?_
      refine v_gI C 5 0 0 500 (w 500 0 0) (C_m C (u_5 0 (by decide))) k_5 (by decide) rfl rfl x_173 (by simp only [wS_s, wS_t, wS_a, ne_eq, Nat.reduceEqDiff, not_false_eq_true]) dX10_layOrder_7 ?_
      refine v_ic_ge C 45 dX10_layOrder_10 (by decide) (fun c_10 => ?_) (fun c_10 => ?_)
      · exact v_vret C dX10_layOrder_45 (congr (congrArg Prod.mk (wS_eq (wS_eq (wS_eq (wS_eq (wS_eq (wS_eq (wS_eq rfl (by clear C ih_2; rw [show (w 500 0 0) = i by grind]; assumption)) (by clear C ih_2; rw [show (w 500 0 0) = i by grind]; assumption)) (by clear C ih_2; rw [show (w 500 0 0) = i by grind]; assumption)) (by clear C ih_2; rw [show (w 500 0 0) = i by grind]; assumption)) (by clear C ih_2; rw [show (w 500 0 0) = i by grind]; assumption)) (by clear C ih_2; rw [show (w 500 0 0) = i by grind]; assumption)) (by clear C ih_2; rw [show (w 500 0 0) = i by grind]; assumption))) rfl)
      · refine v_iload_n C 0 dX10_layOrder_13 rfl ?_
        refine v_bipush (v := 6) C dX10_layOrder_14 (by decide) ?_
        refine v_ic_ge C 45 dX10_layOrder_16 (by decide) (fun c_16 => absurd c_16 (by clear C ih_2; grind)) (fun c_16 => ?_)
        refine v_aload_n C 1 dX10_layOrder_19 rfl ?_
        refine v_gR C 10 0 2 5 2 (C_m C (u_10 0 (by decide))) k_10 (by decide) x_359 (fun _ _ _ => rfl) dX10_layOrder_20 ?_
        refine v_iload_n C 0 dX10_layOrder_23 rfl ?_
        refine v_iconst (v := 1) C dX10_layOrder_24 (by decide) ?_
        refine v_iadd C dX10_layOrder_25 ?_
        refine v_aload_n C 1 dX10_layOrder_26 rfl ?_
        refine v_gR C 10 0 0 5 0 (C_m C (u_10 0 (by decide))) k_10 (by decide) x_357 (fun _ _ _ => rfl) dX10_layOrder_27 ?_
        refine v_aload_n C 1 dX10_layOrder_30 rfl ?_
        refine v_gR C 10 0 7 38 0 (C_m C (u_10 0 (by decide))) k_10 (by decide) x_364 (fun _ _ _ => rfl) dX10_layOrder_31 ?_
        refine v_iload_n C 0 dX10_layOrder_34 rfl ?_
        refine v_iald C 38 0 (C_m C (u_38 0 (by decide))) ⟨by decide, rfl, rfl⟩ (v_in (N := 6) (by decide) (by clear C ih_2; grind) (by clear C ih_2; grind)) dX10_layOrder_35 ?_
        refine v_i (y := ((w 38 0) i.toNatClampNeg)) (by simp only [wS_s, wS_t, wS_a, ne_eq, Nat.reduceEqDiff, not_false_eq_true]) ?_
        refine v_vV C 5 2 [.int (i + 1), .ref (E.ad 5 0), .int ((w 38 0) i.toNatClampNeg)] 3 (c_X5_takeCar E hE _ _ 2 (by decide) 0 (by decide) (i + 1) ((w 38 0) i.toNatClampNeg)  (by clear C ih_2; (try simp only [wS_s, wS_t, wS_a, ne_eq, Nat.reduceEqDiff, not_false_eq_true]); grind) (by clear C ih_2; (try simp only [wS_s, wS_t, wS_a, ne_eq, Nat.reduceEqDiff, not_false_eq_true]); grind)) m_X5_takeCar x_946 x_726 x_727 p_X5_takeCar rfl ⟨Nat.le_of_ble_eq_true rfl, Nat.le_of_ble_eq_true rfl⟩ (C_m C (u_5 2 (by decide))) k_5 rfl (Nat.le_of_ble_eq_true rfl) dX10_layOrder_36 (fun u1 v1 hp1 => ?_)
        have hu1 := hp1
        cases hu1
        refine v_w (w2 := (wS (wS (wS (wS (wS (wS (wS w 30 2 (if (1 ≤ (i + 1) ∧ (i + 1) ≤ (w 500 2 0)) ∧ (1 ≤ ((w 38 0) i.toNatClampNeg) ∧ ((w 38 0) i.toNatClampNeg) ≤ (w 500 0 0)) then upd rkind ((i + 1)).toNatClampNeg ((w 30 0) (((w 38 0) i.toNatClampNeg)).toNatClampNeg) else rkind)) 31 2 (if (1 ≤ (i + 1) ∧ (i + 1) ≤ (w 500 2 0)) ∧ (1 ≤ ((w 38 0) i.toNatClampNeg) ∧ ((w 38 0) i.toNatClampNeg) ≤ (w 500 0 0)) then upd rweight ((i + 1)).toNatClampNeg ((w 31 0) (((w 38 0) i.toNatClampNeg)).toNatClampNeg) else rweight)) 32 2 (if (1 ≤ (i + 1) ∧ (i + 1) ≤ (w 500 2 0)) ∧ (1 ≤ ((w 38 0) i.toNatClampNeg) ∧ ((w 38 0) i.toNatClampNeg) ≤ (w 500 0 0)) then upd rout ((i + 1)).toNatClampNeg ((w 32 0) (((w 38 0) i.toNatClampNeg)).toNatClampNeg) else rout)) 33 2 (if (1 ≤ (i + 1) ∧ (i + 1) ≤ (w 500 2 0)) ∧ (1 ≤ ((w 38 0) i.toNatClampNeg) ∧ ((w 38 0) i.toNatClampNeg) ≤ (w 500 0 0)) then upd rkeep ((i + 1)).toNatClampNeg ((w 33 0) (((w 38 0) i.toNatClampNeg)).toNatClampNeg) else rkeep)) 34 2 (if (1 ≤ (i + 1) ∧ (i + 1) ≤ (w 500 2 0)) ∧ (1 ≤ ((w 38 0) i.toNatClampNeg) ∧ ((w 38 0) i.toNatClampNeg) ≤ (w 500 0 0)) then upd rleak ((i + 1)).toNatClampNeg ((w 34 0) (((w 38 0) i.toNatClampNeg)).toNatClampNeg) else rleak)) 35 2 (if (1 ≤ (i + 1) ∧ (i + 1) ≤ (w 500 2 0)) ∧ (1 ≤ ((w 38 0) i.toNatClampNeg) ∧ ((w 38 0) i.toNatClampNeg) ≤ (w 500 0 0)) then upd rhose ((i + 1)).toNatClampNeg ((w 35 0) (((w 38 0) i.toNatClampNeg)).toNatClampNeg) else rhose)) 36 2 (if (1 ≤ (i + 1) ∧ (i + 1) ≤ (w 500 2 0)) ∧ (1 ≤ ((w 38 0) i.toNatClampNeg) ∧ ((w 38 0) i.toNatClampNeg) ≤ (w 500 0 0)) then upd rstuck ((i + 1)).toNatClampNeg ((w 36 0) (((w 38 0) i.toNatClampNeg)).toNatClampNeg) else rstuck))) (by simp only [wS_s, wS_t, wS_a, ne_eq, Nat.reduceEqDiff, not_false_eq_true, wS_wS, wS_p, wS_pp, Nat.reduceLT, id_eq]) ?_
        refine v_iinc (v := i + 1) (lv2 := [(1, .int (i + 1)), (0, .ref (E.ad 10 0))]) C 0 dX10_layOrder_39 rfl rfl (by decide) rfl ?_
        refine v_goto C 2 dX10_layOrder_42 (by decide) ?_
        exact ih_2 (i + 1) (if (1 ≤ (i + 1) ∧ (i + 1) ≤ (w 500 2 0)) ∧ (1 ≤ ((w 38 0) i.toNatClampNeg) ∧ ((w 38 0) i.toNatClampNeg) ≤ (w 500 0 0)) then upd rkind ((i + 1)).toNatClampNeg ((w 30 0) (((w 38 0) i.toNatClampNeg)).toNatClampNeg) else rkind) (if (1 ≤ (i + 1) ∧ (i + 1) ≤ (w 500 2 0)) ∧ (1 ≤ ((w 38 0) i.toNatClampNeg) ∧ ((w 38 0) i.toNatClampNeg) ≤ (w 500 0 0)) then upd rweight ((i + 1)).toNatClampNeg ((w 31 0) (((w 38 0) i.toNatClampNeg)).toNatClampNeg) else rweight) (if (1 ≤ (i + 1) ∧ (i + 1) ≤ (w 500 2 0)) ∧ (1 ≤ ((w 38 0) i.toNatClampNeg) ∧ ((w 38 0) i.toNatClampNeg) ≤ (w 500 0 0)) then upd rout ((i + 1)).toNatClampNeg ((w 32 0) (((w 38 0) i.toNatClampNeg)).toNatClampNeg) else rout) (if (1 ≤ (i + 1) ∧ (i + 1) ≤ (w 500 2 0)) ∧ (1 ≤ ((w 38 0) i.toNatClampNeg) ∧ ((w 38 0) i.toNatClampNeg) ≤ (w 500 0 0)) then upd rkeep ((i + 1)).toNatClampNeg ((w 33 0) (((w 38 0) i.toNatClampNeg)).toNatClampNeg) else rkeep) (if (1 ≤ (i + 1) ∧ (i + 1) ≤ (w 500 2 0)) ∧ (1 ≤ ((w 38 0) i.toNatClampNeg) ∧ ((w 38 0) i.toNatClampNeg) ≤ (w 500 0 0)) then upd rleak ((i + 1)).toNatClampNeg ((w 34 0) (((w 38 0) i.toNatClampNeg)).toNatClampNeg) else rleak) (if (1 ≤ (i + 1) ∧ (i + 1) ≤ (w 500 2 0)) ∧ (1 ≤ ((w 38 0) i.toNatClampNeg) ∧ ((w 38 0) i.toNatClampNeg) ≤ (w 500 0 0)) then upd rhose ((i + 1)).toNatClampNeg ((w 35 0) (((w 38 0) i.toNatClampNeg)).toNatClampNeg) else rhose) (if (1 ≤ (i + 1) ∧ (i + 1) ≤ (w 500 2 0)) ∧ (1 ≤ ((w 38 0) i.toNatClampNeg) ∧ ((w 38 0) i.toNatClampNeg) ≤ (w 500 0 0)) then upd rstuck ((i + 1)).toNatClampNeg ((w 36 0) (((w 38 0) i.toNatClampNeg)).toNatClampNeg) else rstuck) (by clear C ih_2; exact Nat.lt_of_lt_of_le (m_up (by grind) (by grind)) (Nat.le_of_lt_succ hm_)) (by clear C ih_2; refine ⟨by grind, by grind, by rw [if_pos (by grind), ekind, layR_s _ _ _ g1 (by grind), cl_succ g1 (by grind)], by rw [if_pos (by grind), eweight, layR_s _ _ _ g1 (by grind), cl_succ g1 (by grind)], by rw [if_pos (by grind), eout, layR_s _ _ _ g1 (by grind), cl_succ g1 (by grind)], by rw [if_pos (by grind), ekeep, layR_s _ _ _ g1 (by grind), cl_succ g1 (by grind)], by rw [if_pos (by grind), eleak, layR_s _ _ _ g1 (by grind), cl_succ g1 (by grind)], by rw [if_pos (by grind), ehose, layR_s _ _ _ g1 (by grind), cl_succ g1 (by grind)], by rw [if_pos (by grind), estuck, layR_s _ _ _ g1 (by grind), cl_succ g1 (by grind)]⟩)
  refine v_w (wS_id _ 30 2).symm ?_
  refine v_w (wS_id _ 31 2).symm ?_
  refine v_w (wS_id _ 32 2).symm ?_
  refine v_w (wS_id _ 33 2).symm ?_
  refine v_w (wS_id _ 34 2).symm ?_
  refine v_w (wS_id _ 35 2).symm ?_
  refine v_w (wS_id _ 36 2).symm ?_
  refine v_w (w2 := (wS (wS (wS (wS (wS (wS (wS w 30 2 (w 30 2)) 31 2 (w 31 2)) 32 2 (w 32 2)) 33 2 (w 33 2)) 34 2 (w 34 2)) 35 2 (w 35 2)) 36 2 (w 36 2))) (by simp only [wS_s, wS_t, wS_a, ne_eq, Nat.reduceEqDiff, not_false_eq_true, wS_wS, wS_p, wS_pp, Nat.reduceLT, id_eq]) ?_
  exact hL2 _ 0 (w 30 2) (w 31 2) (w 32 2) (w 33 2) (w 34 2) (w 35 2) (w 36 2) (Nat.lt_succ_self _) (by clear C hL2; exact ⟨by decide, by grind, (layR_0 _ _ _).symm, (layR_0 _ _ _).symm, (layR_0 _ _ _).symm, (layR_0 _ _ _).symm, (layR_0 _ _ _).symm, (layR_0 _ _ _).symm, (layR_0 _ _ _).symm⟩)
