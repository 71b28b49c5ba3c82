abbrev P_X11_car (w : Wi) (z : Wj) (c : Int32) (wh : Int32) : Int32 → WW → Prop := fun r_ u_ => r_ = (if 1 ≤ c ∧ c ≤ (w 500 0 0) then (if wh = 0 then (w 30 0) (c).toNatClampNeg else if wh = 1 then (w 31 0) (c).toNatClampNeg else if wh = 2 then (w 32 0) (c).toNatClampNeg else if wh = 3 then (w 33 0) (c).toNatClampNeg else if wh = 4 then (w 34 0) (c).toNatClampNeg else if wh = 5 then (w 35 0) (c).toNatClampNeg else if wh = 6 then (w 36 0) (c).toNatClampNeg else (-1)) else (-1)) ∧ u_ = (w, z)
set_option maxHeartbeats 4000000 in
set_option maxRecDepth 100000 in
theorem c_X11_car (E : En) (hE : q_ok E) (w : Wi) (z : Wj) (c : Int32) (wh : Int32) (h1 : (w 500 0 0) ≤ 16) (h2 : 1 ≤ c ∧ c ≤ (w 500 0 0)) (h3 : 0 ≤ wh) (h4 : wh ≤ 6) : CtI M_X11_car E [.ref (E.ad 11 0), .int c, .int wh] w z (P_X11_car w z c wh) := by
  refine ctI_of (lv := [(0, .ref (E.ad 11 0)), (1, .int c), (2, .int wh)]) hE m_X11_car (Nat.le_of_ble_eq_true rfl) rfl ?_
  intro K A C0
  have C : Cx K E A cX11_car 3 RX11 (some .int) { frames := 6, cells := 0, slots := 0, locals := 200 } := C0
  clear C0
  refine v_aload_n C 0 dX11_car_0 rfl ?_
  refine v_gR C 11 0 4 5 0 (C_m C (u_11 0 (by decide))) k_11 (by decide) x_504 (fun _ _ _ => rfl) dX11_car_1 ?_
  refine v_iload_n C 1 dX11_car_4 rfl ?_
  refine v_vI C 5 0 [.int c] 1 (c_X5_has E hE _ _ 0 (by decide) c  ) m_X5_has x_786 x_710 x_711 p_X5_has rfl ⟨Nat.le_of_ble_eq_true rfl, Nat.le_of_ble_eq_true rfl⟩ (C_m C (u_5 0 (by decide))) k_5 rfl (Nat.le_of_ble_eq_true rfl) dX11_car_5 (fun r1 u1 v1 hp1 => ?_)
  obtain ⟨hr1, hu1⟩ := hp1
  subst hr1
  cases hu1
  refine v_if_eq C 21 dX11_car_8 (by decide) (fun c_8 => absurd c_8 (by clear C; grind)) (fun c_8 => ?_)
  refine v_iload_n C 2 dX11_car_11 rfl ?_
  refine v_if_lt C 21 dX11_car_12 (by decide) (fun c_12 => absurd c_12 (by clear C; grind)) (fun c_12 => ?_)
  refine v_iload_n C 2 dX11_car_15 rfl ?_
  refine v_bipush (v := 6) C dX11_car_16 (by decide) ?_
  refine v_ic_le C 31 dX11_car_18 (by decide) (fun c_18 => ?_) (fun c_18 => absurd c_18 (by clear C; grind))
  refine v_aload_n C 0 dX11_car_31 rfl ?_
  refine v_gR C 11 0 4 5 0 (C_m C (u_11 0 (by decide))) k_11 (by decide) x_504 (fun _ _ _ => rfl) dX11_car_32 ?_
  refine v_iload_n C 1 dX11_car_35 rfl ?_
  refine v_iload_n C 2 dX11_car_36 rfl ?_
  refine v_vI C 5 0 [.int c, .int wh] 2 (c_X5_fact E hE _ _ 0 (by decide) c wh  (by clear C; first | assumption | grind)) m_X5_fact x_1224 x_1225 x_1226 p_X5_fact rfl ⟨Nat.le_of_ble_eq_true rfl, Nat.le_of_ble_eq_true rfl⟩ (C_m C (u_5 0 (by decide))) k_5 rfl (Nat.le_of_ble_eq_true rfl) dX11_car_37 (fun r2 u2 v2 hp2 => ?_)
  obtain ⟨hr2, hu2⟩ := hp2
  subst hr2
  cases hu2
  exact v_iret C dX11_car_40 ⟨rfl, (congr (congrArg Prod.mk rfl) rfl)⟩
