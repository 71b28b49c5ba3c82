abbrev P_X11_mended (w : Wi) (z : Wj) (wg : Int32) : Int32 → WW → Prop := fun r_ u_ => r_ = (if (0 ≤ wg ∧ wg < 40) ∧ 1 ≤ (w 180 0 0) ∧ (w 180 0 0) ≤ 40 then 1 else 0) ∧ u_ = (w, (wS z 18 0 (if (0 ≤ wg ∧ wg < 40) ∧ 1 ≤ (w 180 0 0) ∧ (w 180 0 0) ≤ 40 then vp_updL (z 18 0) ((w 180 0 0) - 1).toNatClampNeg ((z 18 0) ((w 180 0 0) - 1).toNatClampNeg ||| (1 : Int64) <<< ((wg).toInt64 &&& 63)) else (z 18 0))))
set_option maxHeartbeats 4000000 in
set_option maxRecDepth 100000 in
theorem c_X11_mended (E : En) (hE : q_ok E) (w : Wi) (z : Wj) (wg : Int32) : CtI M_X11_mended E [.ref (E.ad 11 0), .int wg] w z (P_X11_mended w z wg) := by
  refine ctI_of (lv := [(0, .ref (E.ad 11 0)), (1, .int wg)]) hE m_X11_mended (Nat.le_of_ble_eq_true rfl) rfl ?_
  intro K A C0
  have C : Cx K E A cX11_mended 2 RX11 (some .boolean) { frames := 2, cells := 0, slots := 0, locals := 41 } := C0
  clear C0
  refine v_aload_n C 0 dX11_mended_0 rfl ?_
  refine v_gR C 11 0 10 1 0 (C_m C (u_11 0 (by decide))) k_11 (by decide) x_510 (fun _ _ _ => rfl) dX11_mended_1 ?_
  refine v_iload_n C 1 dX11_mended_4 rfl ?_
  refine v_vI C 1 0 [.int wg] 1 (c_X1_mend E hE _ _  wg  ) m_X1_mend x_1105 x_1106 x_1107 p_X1_mend rfl ⟨Nat.le_of_ble_eq_true rfl, Nat.le_of_ble_eq_true rfl⟩ (C_m C (u_1 0 (by decide))) k_1 rfl (Nat.le_of_ble_eq_true rfl) dX11_mended_5 (fun r1 u1 v1 hp1 => ?_)
  obtain ⟨hr1, hu1⟩ := hp1
  subst hr1
  cases hu1
  exact v_zret C dX11_mended_8 (by exact nb (by split <;> simp)) ⟨rfl, (congr (congrArg Prod.mk rfl) rfl)⟩
abbrev P_X11_suspects (w : Wi) (z : Wj) (d : Int32) : Int32 → WW → Prop := fun r_ u_ => r_ = (if d < 0 ∨ (w 180 0 0) ≤ d then (-1) else (fsR (lsF (z 17 0) (z 18 0) (w 19 0) d) (w 20 0) 40).2) ∧ u_ = ((wS (wS w 20 0 (if d < 0 ∨ (w 180 0 0) ≤ d then (w 20 0) else (fsR (lsF (z 17 0) (z 18 0) (w 19 0) d) (w 20 0) 40).1)) 185 0 (fun _ => if d < 0 ∨ (w 180 0 0) ≤ d then (w 185 0 0) else (fsR (lsF (z 17 0) (z 18 0) (w 19 0) d) (w 20 0) 40).2)), z)
set_option maxHeartbeats 4000000 in
set_option maxRecDepth 100000 in
theorem c_X11_suspects (E : En) (hE : q_ok E) (w : Wi) (z : Wj) (d : Int32) (h1 : (w 180 0 0) ≤ 40) : CtI M_X11_suspects E [.ref (E.ad 11 0), .int d] w z (P_X11_suspects w z d) := by
  refine ctI_of (lv := [(0, .ref (E.ad 11 0)), (1, .int d)]) hE m_X11_suspects (Nat.le_of_ble_eq_true rfl) rfl ?_
  intro K A C0
  have C : Cx K E A cX11_suspects 2 RX11 (some .int) { frames := 4, cells := 0, slots := 0, locals := 92 } := C0
  clear C0
  refine v_aload_n C 0 dX11_suspects_0 rfl ?_
  refine v_gR C 11 0 10 1 0 (C_m C (u_11 0 (by decide))) k_11 (by decide) x_510 (fun _ _ _ => rfl) dX11_suspects_1 ?_
  refine v_iload_n C 1 dX11_suspects_4 rfl ?_
  refine v_vI C 1 0 [.int d] 1 (c_X1_findSuspects E hE _ _  d  (by clear C; first | assumption | grind)) m_X1_findSuspects x_1113 x_1114 x_1115 p_X1_findSuspects rfl ⟨Nat.le_of_ble_eq_true rfl, Nat.le_of_ble_eq_true rfl⟩ (C_m C (u_1 0 (by decide))) k_1 rfl (Nat.le_of_ble_eq_true rfl) dX11_suspects_5 (fun r1 u1 v1 hp1 => ?_)
  obtain ⟨hr1, hu1⟩ := hp1
  subst hr1
  cases hu1
  exact v_iret C dX11_suspects_8 ⟨rfl, (congr (congrArg Prod.mk rfl) rfl)⟩
abbrev P_X11_count (w : Wi) (z : Wj) (wh : Int32) : Int32 → WW → Prop := fun r_ u_ => r_ = (if wh = 0 then (w 500 0 0) else if wh = 1 then (w 420 0 0) else if wh = 2 then (w 180 0 0) else if wh = 3 then (if 1 ≤ (w 420 0 0) ∧ (w 420 0 0) ≤ 20 then (w 29 0) ((w 420 0 0) - 1).toNatClampNeg else 0) else if wh = 4 then (w 661 0 0) else (-1)) ∧ u_ = (w, z)
set_option maxHeartbeats 4000000 in
set_option maxRecDepth 100000 in
theorem c_X11_count (E : En) (hE : q_ok E) (w : Wi) (z : Wj) (wh : Int32) : CtI M_X11_count E [.ref (E.ad 11 0), .int wh] w z (P_X11_count w z wh) := by
  refine ctI_of (lv := [(0, .ref (E.ad 11 0)), (1, .int wh)]) hE m_X11_count (Nat.le_of_ble_eq_true rfl) rfl ?_
  intro K A C0
  have C : Cx K E A cX11_count 2 RX11 (some .int) { frames := 1, cells := 0, slots := 0, locals := 20 } := C0
  clear C0
  refine v_iload_n C 1 dX11_count_0 rfl ?_
  by_cases s_1 : (wh).toInt < 0 ∨ 4 < (wh).toInt
  · refine v_tout C 76 dX11_count_1 s_1 (by decide) ?_
    have s_1 := swo (L := 0) (H := 4) s_1 (by decide) (by decide)
    refine v_iconst (v := (-1)) C dX11_count_76 (by decide) ?_
    exact v_iret C dX11_count_77 ⟨(by clear C; grind), (congr (congrArg Prod.mk rfl) rfl)⟩
  · have s_1 := sw_0_4 s_1
    rcases s_1 with s_1 | s_1 | s_1 | s_1 | s_1
    · refine v_i (y := 0) s_1 ?_
      refine v_tin C 35 36 dX11_count_1 (by decide) (by decide) (by decide) (by decide) ?_
      refine v_aload_n C 0 dX11_count_36 rfl ?_
      refine v_gR C 11 0 4 5 0 (C_m C (u_11 0 (by decide))) k_11 (by decide) x_504 (fun _ _ _ => rfl) dX11_count_37 ?_
      refine v_gI C 5 0 0 500 (w 500 0 0) (C_m C (u_5 0 (by decide))) k_5 (by decide) rfl rfl x_174 rfl dX11_count_40 ?_
      exact v_iret C dX11_count_43 ⟨(by clear C; grind), (congr (congrArg Prod.mk rfl) rfl)⟩
    · refine v_i (y := 1) s_1 ?_
      refine v_tin C 43 44 dX11_count_1 (by decide) (by decide) (by decide) (by decide) ?_
      refine v_aload_n C 0 dX11_count_44 rfl ?_
      refine v_gR C 11 0 5 4 0 (C_m C (u_11 0 (by decide))) k_11 (by decide) x_505 (fun _ _ _ => rfl) dX11_count_45 ?_
      refine v_gI C 4 0 0 420 (w 420 0 0) (C_m C (u_4 0 (by decide))) k_4 (by decide) rfl rfl x_245 rfl dX11_count_48 ?_
      exact v_iret C dX11_count_51 ⟨(by clear C; grind), (congr (congrArg Prod.mk rfl) rfl)⟩
    · refine v_i (y := 2) s_1 ?_
      refine v_tin C 51 52 dX11_count_1 (by decide) (by decide) (by decide) (by decide) ?_
      refine v_aload_n C 0 dX11_count_52 rfl ?_
      refine v_gR C 11 0 10 1 0 (C_m C (u_11 0 (by decide))) k_11 (by decide) x_510 (fun _ _ _ => rfl) dX11_count_53 ?_
      refine v_gI C 1 0 0 180 (w 180 0 0) (C_m C (u_1 0 (by decide))) k_1 (by decide) rfl rfl x_475 rfl dX11_count_56 ?_
      exact v_iret C dX11_count_59 ⟨(by clear C; grind), (congr (congrArg Prod.mk rfl) rfl)⟩
    · refine v_i (y := 3) s_1 ?_
      refine v_tin C 59 60 dX11_count_1 (by decide) (by decide) (by decide) (by decide) ?_
      refine v_aload_n C 0 dX11_count_60 rfl ?_
      refine v_gR C 11 0 5 4 0 (C_m C (u_11 0 (by decide))) k_11 (by decide) x_505 (fun _ _ _ => rfl) dX11_count_61 ?_
      refine v_vI C 4 0 [] 0 (c_X4_allTicks E hE _ _ 0 (by decide)   ) m_X4_allTicks x_1150 x_767 x_768 p_X4_allTicks rfl ⟨Nat.le_of_ble_eq_true rfl, Nat.le_of_ble_eq_true rfl⟩ (C_m C (u_4 0 (by decide))) k_4 rfl (Nat.le_of_ble_eq_true rfl) dX11_count_64 (fun r1 u1 v1 hp1 => ?_)
      obtain ⟨hr1, hu1⟩ := hp1
      subst hr1
      cases hu1
      exact v_iret C dX11_count_67 ⟨(by clear C; grind), (congr (congrArg Prod.mk rfl) rfl)⟩
    · refine v_i (y := 4) s_1 ?_
      refine v_tin C 67 68 dX11_count_1 (by decide) (by decide) (by decide) (by decide) ?_
      refine v_aload_n C 0 dX11_count_68 rfl ?_
      refine v_gR C 11 0 0 7 0 (C_m C (u_11 0 (by decide))) k_11 (by decide) x_500 (fun _ _ _ => rfl) dX11_count_69 ?_
      refine v_gI C 7 0 1 661 (w 661 0 0) (C_m C (u_7 0 (by decide))) k_7 (by decide) rfl rfl x_116 rfl dX11_count_72 ?_
      exact v_iret C dX11_count_75 ⟨(by clear C; grind), (congr (congrArg Prod.mk rfl) rfl)⟩
