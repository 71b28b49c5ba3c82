def N_X7_init : Mn := (yX7_init, cX7_init, 1, { frames := 1, cells := 1, slots := 740, locals := 20 })
theorem n_X7_init : N_X7_init.ok := ⟨by decide, by decide, by decide, x_73, x_108, x_107, rfl⟩
theorem pn_X7_init : (parseMethodDescriptor N_X7_init.1.desc).map (fun d => d.parameters.length) = some 0 := by decide +kernel
def P_X7_init (cI cZ cJ : ClassId) (h0 : Nat) : va_W → Prop := fun ws => ∃ q1 : Nat, ws = [(h0, .inr (7, [.ref q1, .int 0])), (q1, .inl (cI, (740, .inl (fun _ => 0))))]
theorem c_X7_init (D : va_G) (cI cZ cJ : ClassId) (h0 : Nat) : CtN N_X7_init D [(cI, .int), (cZ, .boolean), (cJ, .long)] [.ref h0] (h0, .inr (7, [.null, .int 0])) (P_X7_init cI cZ cJ h0) := by
  refine ctN_of n_X7_init (Nat.le_of_ble_eq_true rfl) (lv := [(0, .ref h0)]) rfl (fun K A C => ?_)
  have C : CC K D [(cI, .int), (cZ, .boolean), (cJ, .long)] A cX7_init 1 RX7 { frames := 1, cells := 1, slots := 740, locals := 20 } := C
  have B := C.1
  show VC K D A 1 (QN K D [(cI, .int), (cZ, .boolean), (cJ, .long)] A (P_X7_init cI cZ cJ h0) 1 740) 0 0 0 [(0, .ref h0)] [] [(h0, .inr (7, [.null, .int 0]))]
  refine k_aload_n B 0 dX7_init_0 rfl ?_
  refine k_obj B x_109 x_102 xk_103 ⟨by decide, by decide⟩ (by decide) dX7_init_1 ?_
  refine k_aload_n B 0 dX7_init_4 rfl ?_
  refine k_sipush B (v := 740) dX7_init_5 (by decide) ?_
  refine k_newa B .int (ty := .int) rfl xk_122 0 rfl (fun _ => rfl) (N := 740) (a0 := (740, .inl (fun _ => 0))) (fun _ => rfl) (by decide) (by decide) (by decide) (k2 := 1) (n2 := 740) rfl rfl ⟨by decide, by decide⟩ dX7_init_8 (fun q1 => ?_)
  refine k_putF C 0 k_7 ty_7 (by decide) rfl rfl x_110 rfl rfl (Nat.le_of_ble_eq_true rfl) (fs2 := [.ref q1, .int 0]) rfl dX7_init_10 ?_
  refine k_aload_n B 0 dX7_init_13 rfl ?_
  refine k_iconst B (v := 0) dX7_init_14 (by decide) ?_
  refine k_put B 1 k_7 ty_7 (by decide) rfl x_112 rfl rfl (Nat.le_of_ble_eq_true rfl) (fs2 := [.ref q1, .int 0]) rfl dX7_init_15 ?_
  exact k_ret C rfl rfl dX7_init_18 ⟨q1, rfl⟩
def N_X5_init : Mn := (yX5_init, cX5_init, 1, { frames := 1, cells := 7, slots := 119, locals := 20 })
theorem n_X5_init : N_X5_init.ok := ⟨by decide, by decide, by decide, x_76, x_166, x_165, rfl⟩
theorem pn_X5_init : (parseMethodDescriptor N_X5_init.1.desc).map (fun d => d.parameters.length) = some 0 := by decide +kernel
def P_X5_init (cI cZ cJ : ClassId) (h0 : Nat) : va_W → Prop := fun ws => ∃ q1 q2 q3 q4 q5 q6 q7 : Nat, ws = [(h0, .inr (5, [.int 0, .int 700, .int 40, .ref q1, .ref q2, .ref q3, .ref q4, .ref q5, .ref q6, .ref q7])), (q1, .inl (cI, (17, .inl (fun _ => 0)))), (q2, .inl (cI, (17, .inl (fun _ => 0)))), (q3, .inl (cI, (17, .inl (fun _ => 0)))), (q4, .inl (cI, (17, .inl (fun _ => 0)))), (q5, .inl (cI, (17, .inl (fun _ => 0)))), (q6, .inl (cI, (17, .inl (fun _ => 0)))), (q7, .inl (cI, (17, .inl (fun _ => 0))))]
theorem c_X5_init (D : va_G) (cI cZ cJ : ClassId) (h0 : Nat) : CtN N_X5_init D [(cI, .int), (cZ, .boolean), (cJ, .long)] [.ref h0] (h0, .inr (5, [.int 0, .int 0, .int 0, .null, .null, .null, .null, .null, .null, .null])) (P_X5_init cI cZ cJ h0) := by
  refine ctN_of n_X5_init (Nat.le_of_ble_eq_true rfl) (lv := [(0, .ref h0)]) rfl (fun K A C => ?_)
  have C : CC K D [(cI, .int), (cZ, .boolean), (cJ, .long)] A cX5_init 1 RX5 { frames := 1, cells := 7, slots := 119, locals := 20 } := C
  have B := C.1
  show VC K D A 1 (QN K D [(cI, .int), (cZ, .boolean), (cJ, .long)] A (P_X5_init cI cZ cJ h0) 7 119) 0 0 0 [(0, .ref h0)] [] [(h0, .inr (5, [.int 0, .int 0, .int 0, .null, .null, .null, .null, .null, .null, .null]))]
  refine k_aload_n B 0 dX5_init_0 rfl ?_
  refine k_obj B x_167 x_102 xk_103 ⟨by decide, by decide⟩ (by decide) dX5_init_1 ?_
  refine k_aload_n B 0 dX5_init_4 rfl ?_
  refine k_iconst B (v := 0) dX5_init_5 (by decide) ?_
  refine k_put B 0 k_5 ty_5 (by decide) rfl x_168 rfl rfl (Nat.le_of_ble_eq_true rfl) (fs2 := [.int 0, .int 0, .int 0, .null, .null, .null, .null, .null, .null, .null]) rfl dX5_init_6 ?_
  refine k_aload_n B 0 dX5_init_9 rfl ?_
  refine k_sipush B (v := 700) dX5_init_10 (by decide) ?_
  refine k_put B 1 k_5 ty_5 (by decide) rfl x_175 rfl rfl (Nat.le_of_ble_eq_true rfl) (fs2 := [.int 0, .int 700, .int 0, .null, .null, .null, .null, .null, .null, .null]) rfl dX5_init_13 ?_
  refine k_aload_n B 0 dX5_init_16 rfl ?_
  refine k_bipush B (v := 40) dX5_init_17 (by decide) ?_
  refine k_put B 2 k_5 ty_5 (by decide) rfl x_178 rfl rfl (Nat.le_of_ble_eq_true rfl) (fs2 := [.int 0, .int 700, .int 40, .null, .null, .null, .null, .null, .null, .null]) rfl dX5_init_19 ?_
  refine k_aload_n B 0 dX5_init_22 rfl ?_
  refine k_bipush B (v := 17) dX5_init_23 (by decide) ?_
  refine k_newa B .int (ty := .int) rfl xk_122 0 rfl (fun _ => rfl) (N := 17) (a0 := (17, .inl (fun _ => 0))) (fun _ => rfl) (by decide) (by decide) (by decide) (k2 := 1) (n2 := 17) rfl rfl ⟨by decide, by decide⟩ dX5_init_25 (fun q1 => ?_)
  refine k_putF C 3 k_5 ty_5 (by decide) rfl rfl x_181 rfl rfl (Nat.le_of_ble_eq_true rfl) (fs2 := [.int 0, .int 700, .int 40, .ref q1, .null, .null, .null, .null, .null, .null]) rfl dX5_init_27 ?_
  refine k_aload_n B 0 dX5_init_30 rfl ?_
  refine k_bipush B (v := 17) dX5_init_31 (by decide) ?_
  refine k_newa B .int (ty := .int) rfl xk_122 0 rfl (fun _ => rfl) (N := 17) (a0 := (17, .inl (fun _ => 0))) (fun _ => rfl) (by decide) (by decide) (by decide) (k2 := 2) (n2 := 34) rfl rfl ⟨by decide, by decide⟩ dX5_init_33 (fun q2 => ?_)
  refine k_putF C 4 k_5 ty_5 (by decide) rfl rfl x_183 rfl rfl (Nat.le_of_ble_eq_true rfl) (fs2 := [.int 0, .int 700, .int 40, .ref q1, .ref q2, .null, .null, .null, .null, .null]) rfl dX5_init_35 ?_
  refine k_aload_n B 0 dX5_init_38 rfl ?_
  refine k_bipush B (v := 17) dX5_init_39 (by decide) ?_
  refine k_newa B .int (ty := .int) rfl xk_122 0 rfl (fun _ => rfl) (N := 17) (a0 := (17, .inl (fun _ => 0))) (fun _ => rfl) (by decide) (by decide) (by decide) (k2 := 3) (n2 := 51) rfl rfl ⟨by decide, by decide⟩ dX5_init_41 (fun q3 => ?_)
  refine k_putF C 5 k_5 ty_5 (by decide) rfl rfl x_184 rfl rfl (Nat.le_of_ble_eq_true rfl) (fs2 := [.int 0, .int 700, .int 40, .ref q1, .ref q2, .ref q3, .null, .null, .null, .null]) rfl dX5_init_43 ?_
  refine k_aload_n B 0 dX5_init_46 rfl ?_
  refine k_bipush B (v := 17) dX5_init_47 (by decide) ?_
  refine k_newa B .int (ty := .int) rfl xk_122 0 rfl (fun _ => rfl) (N := 17) (a0 := (17, .inl (fun _ => 0))) (fun _ => rfl) (by decide) (by decide) (by decide) (k2 := 4) (n2 := 68) rfl rfl ⟨by decide, by decide⟩ dX5_init_49 (fun q4 => ?_)
  refine k_putF C 6 k_5 ty_5 (by decide) rfl rfl x_188 rfl rfl (Nat.le_of_ble_eq_true rfl) (fs2 := [.int 0, .int 700, .int 40, .ref q1, .ref q2, .ref q3, .ref q4, .null, .null, .null]) rfl dX5_init_51 ?_
  refine k_aload_n B 0 dX5_init_54 rfl ?_
  refine k_bipush B (v := 17) dX5_init_55 (by decide) ?_
  refine k_newa B .int (ty := .int) rfl xk_122 0 rfl (fun _ => rfl) (N := 17) (a0 := (17, .inl (fun _ => 0))) (fun _ => rfl) (by decide) (by decide) (by decide) (k2 := 5) (n2 := 85) rfl rfl ⟨by decide, by decide⟩ dX5_init_57 (fun q5 => ?_)
  refine k_putF C 7 k_5 ty_5 (by decide) rfl rfl x_190 rfl rfl (Nat.le_of_ble_eq_true rfl) (fs2 := [.int 0, .int 700, .int 40, .ref q1, .ref q2, .ref q3, .ref q4, .ref q5, .null, .null]) rfl dX5_init_59 ?_
  refine k_aload_n B 0 dX5_init_62 rfl ?_
  refine k_bipush B (v := 17) dX5_init_63 (by decide) ?_
  refine k_newa B .int (ty := .int) rfl xk_122 0 rfl (fun _ => rfl) (N := 17) (a0 := (17, .inl (fun _ => 0))) (fun _ => rfl) (by decide) (by decide) (by decide) (k2 := 6) (n2 := 102) rfl rfl ⟨by decide, by decide⟩ dX5_init_65 (fun q6 => ?_)
  refine k_putF C 8 k_5 ty_5 (by decide) rfl rfl x_192 rfl rfl (Nat.le_of_ble_eq_true rfl) (fs2 := [.int 0, .int 700, .int 40, .ref q1, .ref q2, .ref q3, .ref q4, .ref q5, .ref q6, .null]) rfl dX5_init_67 ?_
  refine k_aload_n B 0 dX5_init_70 rfl ?_
  refine k_bipush B (v := 17) dX5_init_71 (by decide) ?_
  refine k_newa B .int (ty := .int) rfl xk_122 0 rfl (fun _ => rfl) (N := 17) (a0 := (17, .inl (fun _ => 0))) (fun _ => rfl) (by decide) (by decide) (by decide) (k2 := 7) (n2 := 119) rfl rfl ⟨by decide, by decide⟩ dX5_init_73 (fun q7 => ?_)
  refine k_putF C 9 k_5 ty_5 (by decide) rfl rfl x_194 rfl rfl (Nat.le_of_ble_eq_true rfl) (fs2 := [.int 0, .int 700, .int 40, .ref q1, .ref q2, .ref q3, .ref q4, .ref q5, .ref q6, .ref q7]) rfl dX5_init_75 ?_
  exact k_ret C rfl rfl dX5_init_78 ⟨q1, q2, q3, q4, q5, q6, q7, rfl⟩
def N_X4_init : Mn := (yX4_init, cX4_init, 1, { frames := 1, cells := 3, slots := 60, locals := 20 })
theorem n_X4_init : N_X4_init.ok := ⟨by decide, by decide, by decide, x_78, x_241, x_240, rfl⟩
theorem pn_X4_init : (parseMethodDescriptor N_X4_init.1.desc).map (fun d => d.parameters.length) = some 0 := by decide +kernel
def P_X4_init (cI cZ cJ : ClassId) (h0 : Nat) : va_W → Prop := fun ws => ∃ q1 q2 q3 : Nat, ws = [(h0, .inr (4, [.int 0, .int 0, .ref q1, .ref q2, .ref q3])), (q1, .inl (cI, (20, .inl (fun _ => 0)))), (q2, .inl (cI, (20, .inl (fun _ => 0)))), (q3, .inl (cI, (20, .inl (fun _ => 0))))]
theorem c_X4_init (D : va_G) (cI cZ cJ : ClassId) (h0 : Nat) : CtN N_X4_init D [(cI, .int), (cZ, .boolean), (cJ, .long)] [.ref h0] (h0, .inr (4, [.int 0, .int 0, .null, .null, .null])) (P_X4_init cI cZ cJ h0) := by
  refine ctN_of n_X4_init (Nat.le_of_ble_eq_true rfl) (lv := [(0, .ref h0)]) rfl (fun K A C => ?_)
  have C : CC K D [(cI, .int), (cZ, .boolean), (cJ, .long)] A cX4_init 1 RX4 { frames := 1, cells := 3, slots := 60, locals := 20 } := C
  have B := C.1
  show VC K D A 1 (QN K D [(cI, .int), (cZ, .boolean), (cJ, .long)] A (P_X4_init cI cZ cJ h0) 3 60) 0 0 0 [(0, .ref h0)] [] [(h0, .inr (4, [.int 0, .int 0, .null, .null, .null]))]
  refine k_aload_n B 0 dX4_init_0 rfl ?_
  refine k_obj B x_242 x_102 xk_103 ⟨by decide, by decide⟩ (by decide) dX4_init_1 ?_
  refine k_aload_n B 0 dX4_init_4 rfl ?_
  refine k_iconst B (v := 0) dX4_init_5 (by decide) ?_
  refine k_put B 0 k_4 ty_4 (by decide) rfl x_243 rfl rfl (Nat.le_of_ble_eq_true rfl) (fs2 := [.int 0, .int 0, .null, .null, .null]) rfl dX4_init_6 ?_
  refine k_aload_n B 0 dX4_init_9 rfl ?_
  refine k_iconst B (v := 0) dX4_init_10 (by decide) ?_
  refine k_put B 1 k_4 ty_4 (by decide) rfl x_246 rfl rfl (Nat.le_of_ble_eq_true rfl) (fs2 := [.int 0, .int 0, .null, .null, .null]) rfl dX4_init_11 ?_
  refine k_aload_n B 0 dX4_init_14 rfl ?_
  refine k_bipush B (v := 20) dX4_init_15 (by decide) ?_
  refine k_newa B .int (ty := .int) rfl xk_122 0 rfl (fun _ => rfl) (N := 20) (a0 := (20, .inl (fun _ => 0))) (fun _ => rfl) (by decide) (by decide) (by decide) (k2 := 1) (n2 := 20) rfl rfl ⟨by decide, by decide⟩ dX4_init_17 (fun q1 => ?_)
  refine k_putF C 2 k_4 ty_4 (by decide) rfl rfl x_249 rfl rfl (Nat.le_of_ble_eq_true rfl) (fs2 := [.int 0, .int 0, .ref q1, .null, .null]) rfl dX4_init_19 ?_
  refine k_aload_n B 0 dX4_init_22 rfl ?_
  refine k_bipush B (v := 20) dX4_init_23 (by decide) ?_
  refine k_newa B .int (ty := .int) rfl xk_122 0 rfl (fun _ => rfl) (N := 20) (a0 := (20, .inl (fun _ => 0))) (fun _ => rfl) (by decide) (by decide) (by decide) (k2 := 2) (n2 := 40) rfl rfl ⟨by decide, by decide⟩ dX4_init_25 (fun q2 => ?_)
  refine k_putF C 3 k_4 ty_4 (by decide) rfl rfl x_250 rfl rfl (Nat.le_of_ble_eq_true rfl) (fs2 := [.int 0, .int 0, .ref q1, .ref q2, .null]) rfl dX4_init_27 ?_
  refine k_aload_n B 0 dX4_init_30 rfl ?_
  refine k_bipush B (v := 20) dX4_init_31 (by decide) ?_
  refine k_newa B .int (ty := .int) rfl xk_122 0 rfl (fun _ => rfl) (N := 20) (a0 := (20, .inl (fun _ => 0))) (fun _ => rfl) (by decide) (by decide) (by decide) (k2 := 3) (n2 := 60) rfl rfl ⟨by decide, by decide⟩ dX4_init_33 (fun q3 => ?_)
  refine k_putF C 4 k_4 ty_4 (by decide) rfl rfl x_251 rfl rfl (Nat.le_of_ble_eq_true rfl) (fs2 := [.int 0, .int 0, .ref q1, .ref q2, .ref q3]) rfl dX4_init_35 ?_
  exact k_ret C rfl rfl dX4_init_38 ⟨q1, q2, q3, rfl⟩
def N_X0_init : Mn := (yX0_init, cX0_init, 1, { frames := 1, cells := 4, slots := 68, locals := 20 })
theorem n_X0_init : N_X0_init.ok := ⟨by decide, by decide, by decide, x_79, x_279, x_278, rfl⟩
theorem pn_X0_init : (parseMethodDescriptor N_X0_init.1.desc).map (fun d => d.parameters.length) = some 0 := by decide +kernel
def P_X0_init (cI cZ cJ : ClassId) (h0 : Nat) : va_W → Prop := fun ws => ∃ q1 q2 q3 q4 : Nat, ws = [(h0, .inr (0, [.ref q1, .ref q2, .ref q3, .ref q4, .int 0, .int 0, .int 0, .int (-1), .int 0, .int 0])), (q1, .inl (cI, (17, .inl (fun _ => 0)))), (q2, .inl (cI, (17, .inl (fun _ => 0)))), (q3, .inl (cI, (17, .inl (fun _ => 0)))), (q4, .inl (cI, (17, .inl (fun _ => 0))))]
theorem c_X0_init (D : va_G) (cI cZ cJ : ClassId) (h0 : Nat) : CtN N_X0_init D [(cI, .int), (cZ, .boolean), (cJ, .long)] [.ref h0] (h0, .inr (0, [.null, .null, .null, .null, .int 0, .int 0, .int 0, .int 0, .int 0, .int 0])) (P_X0_init cI cZ cJ h0) := by
  refine ctN_of n_X0_init (Nat.le_of_ble_eq_true rfl) (lv := [(0, .ref h0)]) rfl (fun K A C => ?_)
  have C : CC K D [(cI, .int), (cZ, .boolean), (cJ, .long)] A cX0_init 1 RX0 { frames := 1, cells := 4, slots := 68, locals := 20 } := C
  have B := C.1
  show VC K D A 1 (QN K D [(cI, .int), (cZ, .boolean), (cJ, .long)] A (P_X0_init cI cZ cJ h0) 4 68) 0 0 0 [(0, .ref h0)] [] [(h0, .inr (0, [.null, .null, .null, .null, .int 0, .int 0, .int 0, .int 0, .int 0, .int 0]))]
  refine k_aload_n B 0 dX0_init_0 rfl ?_
  refine k_obj B x_280 x_102 xk_103 ⟨by decide, by decide⟩ (by decide) dX0_init_1 ?_
  refine k_aload_n B 0 dX0_init_4 rfl ?_
  refine k_bipush B (v := 17) dX0_init_5 (by decide) ?_
  refine k_newa B .int (ty := .int) rfl xk_122 0 rfl (fun _ => rfl) (N := 17) (a0 := (17, .inl (fun _ => 0))) (fun _ => rfl) (by decide) (by decide) (by decide) (k2 := 1) (n2 := 17) rfl rfl ⟨by decide, by decide⟩ dX0_init_7 (fun q1 => ?_)
  refine k_putF C 0 k_0 ty_0 (by decide) rfl rfl x_281 rfl rfl (Nat.le_of_ble_eq_true rfl) (fs2 := [.ref q1, .null, .null, .null, .int 0, .int 0, .int 0, .int 0, .int 0, .int 0]) rfl dX0_init_9 ?_
  refine k_aload_n B 0 dX0_init_12 rfl ?_
  refine k_bipush B (v := 17) dX0_init_13 (by decide) ?_
  refine k_newa B .int (ty := .int) rfl xk_122 0 rfl (fun _ => rfl) (N := 17) (a0 := (17, .inl (fun _ => 0))) (fun _ => rfl) (by decide) (by decide) (by decide) (k2 := 2) (n2 := 34) rfl rfl ⟨by decide, by decide⟩ dX0_init_15 (fun q2 => ?_)
  refine k_putF C 1 k_0 ty_0 (by decide) rfl rfl x_282 rfl rfl (Nat.le_of_ble_eq_true rfl) (fs2 := [.ref q1, .ref q2, .null, .null, .int 0, .int 0, .int 0, .int 0, .int 0, .int 0]) rfl dX0_init_17 ?_
  refine k_aload_n B 0 dX0_init_20 rfl ?_
  refine k_bipush B (v := 17) dX0_init_21 (by decide) ?_
  refine k_newa B .int (ty := .int) rfl xk_122 0 rfl (fun _ => rfl) (N := 17) (a0 := (17, .inl (fun _ => 0))) (fun _ => rfl) (by decide) (by decide) (by decide) (k2 := 3) (n2 := 51) rfl rfl ⟨by decide, by decide⟩ dX0_init_23 (fun q3 => ?_)
  refine k_putF C 2 k_0 ty_0 (by decide) rfl rfl x_283 rfl rfl (Nat.le_of_ble_eq_true rfl) (fs2 := [.ref q1, .ref q2, .ref q3, .null, .int 0, .int 0, .int 0, .int 0, .int 0, .int 0]) rfl dX0_init_25 ?_
  refine k_aload_n B 0 dX0_init_28 rfl ?_
  refine k_bipush B (v := 17) dX0_init_29 (by decide) ?_
  refine k_newa B .int (ty := .int) rfl xk_122 0 rfl (fun _ => rfl) (N := 17) (a0 := (17, .inl (fun _ => 0))) (fun _ => rfl) (by decide) (by decide) (by decide) (k2 := 4) (n2 := 68) rfl rfl ⟨by decide, by decide⟩ dX0_init_31 (fun q4 => ?_)
  refine k_putF C 3 k_0 ty_0 (by decide) rfl rfl x_284 rfl rfl (Nat.le_of_ble_eq_true rfl) (fs2 := [.ref q1, .ref q2, .ref q3, .ref q4, .int 0, .int 0, .int 0, .int 0, .int 0, .int 0]) rfl dX0_init_33 ?_
  refine k_aload_n B 0 dX0_init_36 rfl ?_
  refine k_iconst B (v := 0) dX0_init_37 (by decide) ?_
  refine k_put B 4 k_0 ty_0 (by decide) rfl x_286 rfl rfl (Nat.le_of_ble_eq_true rfl) (fs2 := [.ref q1, .ref q2, .ref q3, .ref q4, .int 0, .int 0, .int 0, .int 0, .int 0, .int 0]) rfl dX0_init_38 ?_
  refine k_aload_n B 0 dX0_init_41 rfl ?_
  refine k_iconst B (v := 0) dX0_init_42 (by decide) ?_
  refine k_put B 5 k_0 ty_0 (by decide) rfl x_287 rfl rfl (Nat.le_of_ble_eq_true rfl) (fs2 := [.ref q1, .ref q2, .ref q3, .ref q4, .int 0, .int 0, .int 0, .int 0, .int 0, .int 0]) rfl dX0_init_43 ?_
  refine k_aload_n B 0 dX0_init_46 rfl ?_
  refine k_iconst B (v := 0) dX0_init_47 (by decide) ?_
  refine k_put B 6 k_0 ty_0 (by decide) rfl x_288 rfl rfl (Nat.le_of_ble_eq_true rfl) (fs2 := [.ref q1, .ref q2, .ref q3, .ref q4, .int 0, .int 0, .int 0, .int 0, .int 0, .int 0]) rfl dX0_init_48 ?_
  refine k_aload_n B 0 dX0_init_51 rfl ?_
  refine k_iconst B (v := (-1)) dX0_init_52 (by decide) ?_
  refine k_put B 7 k_0 ty_0 (by decide) rfl x_289 rfl rfl (Nat.le_of_ble_eq_true rfl) (fs2 := [.ref q1, .ref q2, .ref q3, .ref q4, .int 0, .int 0, .int 0, .int (-1), .int 0, .int 0]) rfl dX0_init_53 ?_
  refine k_aload_n B 0 dX0_init_56 rfl ?_
  refine k_iconst B (v := 0) dX0_init_57 (by decide) ?_
  refine k_put B 8 k_0 ty_0 (by decide) rfl x_290 rfl rfl (Nat.le_of_ble_eq_true rfl) (fs2 := [.ref q1, .ref q2, .ref q3, .ref q4, .int 0, .int 0, .int 0, .int (-1), .int 0, .int 0]) rfl dX0_init_58 ?_
  refine k_aload_n B 0 dX0_init_61 rfl ?_
  refine k_iconst B (v := 0) dX0_init_62 (by decide) ?_
  refine k_put B 9 k_0 ty_0 (by decide) rfl x_291 rfl rfl (Nat.le_of_ble_eq_true rfl) (fs2 := [.ref q1, .ref q2, .ref q3, .ref q4, .int 0, .int 0, .int 0, .int (-1), .int 0, .int 0]) rfl dX0_init_63 ?_
  exact k_ret C rfl rfl dX0_init_66 ⟨q1, q2, q3, q4, rfl⟩
def N_X6_init : Mn := (yX6_init, cX6_init, 1, { frames := 1, cells := 0, slots := 0, locals := 20 })
theorem n_X6_init : N_X6_init.ok := ⟨by decide, by decide, by decide, x_80, x_318, x_317, rfl⟩
theorem pn_X6_init : (parseMethodDescriptor N_X6_init.1.desc).map (fun d => d.parameters.length) = some 0 := by decide +kernel
def P_X6_init (cI cZ cJ : ClassId) (h0 : Nat) : va_W → Prop := fun ws => ws = [(h0, .inr (6, [.int 0, .int 0, .int 0, .int 0, .int 0, .int 0, .int 0]))]
theorem c_X6_init (D : va_G) (cI cZ cJ : ClassId) (h0 : Nat) : CtN N_X6_init D [(cI, .int), (cZ, .boolean), (cJ, .long)] [.ref h0] (h0, .inr (6, [.int 0, .int 0, .int 0, .int 0, .int 0, .int 0, .int 0])) (P_X6_init cI cZ cJ h0) := by
  refine ctN_of n_X6_init (Nat.le_of_ble_eq_true rfl) (lv := [(0, .ref h0)]) rfl (fun K A C => ?_)
  have C : CC K D [(cI, .int), (cZ, .boolean), (cJ, .long)] A cX6_init 1 RX6 { frames := 1, cells := 0, slots := 0, locals := 20 } := C
  have B := C.1
  show VC K D A 1 (QN K D [(cI, .int), (cZ, .boolean), (cJ, .long)] A (P_X6_init cI cZ cJ h0) 0 0) 0 0 0 [(0, .ref h0)] [] [(h0, .inr (6, [.int 0, .int 0, .int 0, .int 0, .int 0, .int 0, .int 0]))]
  refine k_aload_n B 0 dX6_init_0 rfl ?_
  refine k_obj B x_319 x_102 xk_103 ⟨by decide, by decide⟩ (by decide) dX6_init_1 ?_
  refine k_aload_n B 0 dX6_init_4 rfl ?_
  refine k_iconst B (v := 0) dX6_init_5 (by decide) ?_
  refine k_put B 0 k_6 ty_6 (by decide) rfl x_320 rfl rfl (Nat.le_of_ble_eq_true rfl) (fs2 := [.int 0, .int 0, .int 0, .int 0, .int 0, .int 0, .int 0]) rfl dX6_init_6 ?_
  refine k_aload_n B 0 dX6_init_9 rfl ?_
  refine k_iconst B (v := 0) dX6_init_10 (by decide) ?_
  refine k_put B 1 k_6 ty_6 (by decide) rfl x_321 rfl rfl (Nat.le_of_ble_eq_true rfl) (fs2 := [.int 0, .int 0, .int 0, .int 0, .int 0, .int 0, .int 0]) rfl dX6_init_11 ?_
  refine k_aload_n B 0 dX6_init_14 rfl ?_
  refine k_iconst B (v := 0) dX6_init_15 (by decide) ?_
  refine k_put B 2 k_6 ty_6 (by decide) rfl x_322 rfl rfl (Nat.le_of_ble_eq_true rfl) (fs2 := [.int 0, .int 0, .int 0, .int 0, .int 0, .int 0, .int 0]) rfl dX6_init_16 ?_
  refine k_aload_n B 0 dX6_init_19 rfl ?_
  refine k_iconst B (v := 0) dX6_init_20 (by decide) ?_
  refine k_put B 3 k_6 ty_6 (by decide) rfl x_323 rfl rfl (Nat.le_of_ble_eq_true rfl) (fs2 := [.int 0, .int 0, .int 0, .int 0, .int 0, .int 0, .int 0]) rfl dX6_init_21 ?_
  refine k_aload_n B 0 dX6_init_24 rfl ?_
  refine k_iconst B (v := 0) dX6_init_25 (by decide) ?_
  refine k_put B 4 k_6 ty_6 (by decide) rfl x_324 rfl rfl (Nat.le_of_ble_eq_true rfl) (fs2 := [.int 0, .int 0, .int 0, .int 0, .int 0, .int 0, .int 0]) rfl dX6_init_26 ?_
  refine k_aload_n B 0 dX6_init_29 rfl ?_
  refine k_iconst B (v := 0) dX6_init_30 (by decide) ?_
  refine k_put B 5 k_6 ty_6 (by decide) rfl x_326 rfl rfl (Nat.le_of_ble_eq_true rfl) (fs2 := [.int 0, .int 0, .int 0, .int 0, .int 0, .int 0, .int 0]) rfl dX6_init_31 ?_
  refine k_aload_n B 0 dX6_init_34 rfl ?_
  refine k_iconst B (v := 0) dX6_init_35 (by decide) ?_
  refine k_put B 6 k_6 ty_6 (by decide) rfl x_328 rfl rfl (Nat.le_of_ble_eq_true rfl) (fs2 := [.int 0, .int 0, .int 0, .int 0, .int 0, .int 0, .int 0]) rfl dX6_init_36 ?_
  exact k_ret C rfl rfl dX6_init_39 rfl
def N_X1_init : Mn := (yX1_init, cX1_init, 1, { frames := 1, cells := 4, slots := 160, locals := 20 })
theorem n_X1_init : N_X1_init.ok := ⟨by decide, by decide, by decide, x_83, x_472, x_471, rfl⟩
theorem pn_X1_init : (parseMethodDescriptor N_X1_init.1.desc).map (fun d => d.parameters.length) = some 0 := by decide +kernel
def P_X1_init (cI cZ cJ : ClassId) (h0 : Nat) : va_W → Prop := fun ws => ∃ q1 q2 q3 q4 : Nat, ws = [(h0, .inr (1, [.int 0, .ref q1, .ref q2, .ref q3, .ref q4, .int 0])), (q1, .inl (cJ, (40, .inr (.inl (fun _ => 0))))), (q2, .inl (cJ, (40, .inr (.inl (fun _ => 0))))), (q3, .inl (cZ, (40, .inl (fun _ => 0)))), (q4, .inl (cI, (40, .inl (fun _ => 0))))]
theorem c_X1_init (D : va_G) (cI cZ cJ : ClassId) (h0 : Nat) : CtN N_X1_init D [(cI, .int), (cZ, .boolean), (cJ, .long)] [.ref h0] (h0, .inr (1, [.int 0, .null, .null, .null, .null, .int 0])) (P_X1_init cI cZ cJ h0) := by
  refine ctN_of n_X1_init (Nat.le_of_ble_eq_true rfl) (lv := [(0, .ref h0)]) rfl (fun K A C => ?_)
  have C : CC K D [(cI, .int), (cZ, .boolean), (cJ, .long)] A cX1_init 1 RX1 { frames := 1, cells := 4, slots := 160, locals := 20 } := C
  have B := C.1
  show VC K D A 1 (QN K D [(cI, .int), (cZ, .boolean), (cJ, .long)] A (P_X1_init cI cZ cJ h0) 4 160) 0 0 0 [(0, .ref h0)] [] [(h0, .inr (1, [.int 0, .null, .null, .null, .null, .int 0]))]
  refine k_aload_n B 0 dX1_init_0 rfl ?_
  refine k_obj B x_473 x_102 xk_103 ⟨by decide, by decide⟩ (by decide) dX1_init_1 ?_
  refine k_aload_n B 0 dX1_init_4 rfl ?_
  refine k_iconst B (v := 0) dX1_init_5 (by decide) ?_
  refine k_put B 0 k_1 ty_1 (by decide) rfl x_474 rfl rfl (Nat.le_of_ble_eq_true rfl) (fs2 := [.int 0, .null, .null, .null, .null, .int 0]) rfl dX1_init_6 ?_
  refine k_aload_n B 0 dX1_init_9 rfl ?_
  refine k_bipush B (v := 40) dX1_init_10 (by decide) ?_
  refine k_newa B .long (ty := .long) rfl xk_494 2 rfl (fun _ => rfl) (N := 40) (a0 := (40, .inr (.inl (fun _ => 0)))) (fun _ => rfl) (by decide) (by decide) (by decide) (k2 := 1) (n2 := 40) rfl rfl ⟨by decide, by decide⟩ dX1_init_12 (fun q1 => ?_)
  refine k_putF C 1 k_1 ty_1 (by decide) rfl rfl x_476 rfl rfl (Nat.le_of_ble_eq_true rfl) (fs2 := [.int 0, .ref q1, .null, .null, .null, .int 0]) rfl dX1_init_14 ?_
  refine k_aload_n B 0 dX1_init_17 rfl ?_
  refine k_bipush B (v := 40) dX1_init_18 (by decide) ?_
  refine k_newa B .long (ty := .long) rfl xk_494 2 rfl (fun _ => rfl) (N := 40) (a0 := (40, .inr (.inl (fun _ => 0)))) (fun _ => rfl) (by decide) (by decide) (by decide) (k2 := 2) (n2 := 80) rfl rfl ⟨by decide, by decide⟩ dX1_init_20 (fun q2 => ?_)
  refine k_putF C 2 k_1 ty_1 (by decide) rfl rfl x_477 rfl rfl (Nat.le_of_ble_eq_true rfl) (fs2 := [.int 0, .ref q1, .ref q2, .null, .null, .int 0]) rfl dX1_init_22 ?_
  refine k_aload_n B 0 dX1_init_25 rfl ?_
  refine k_bipush B (v := 40) dX1_init_26 (by decide) ?_
  refine k_newa B .boolean (ty := .boolean) rfl xk_495 1 rfl (fun _ => rfl) (N := 40) (a0 := (40, .inl (fun _ => 0))) (fun _ => rfl) (by decide) (by decide) (by decide) (k2 := 3) (n2 := 120) rfl rfl ⟨by decide, by decide⟩ dX1_init_28 (fun q3 => ?_)
  refine k_putF C 3 k_1 ty_1 (by decide) rfl rfl x_478 rfl rfl (Nat.le_of_ble_eq_true rfl) (fs2 := [.int 0, .ref q1, .ref q2, .ref q3, .null, .int 0]) rfl dX1_init_30 ?_
  refine k_aload_n B 0 dX1_init_33 rfl ?_
  refine k_bipush B (v := 40) dX1_init_34 (by decide) ?_
  refine k_newa B .int (ty := .int) rfl xk_122 0 rfl (fun _ => rfl) (N := 40) (a0 := (40, .inl (fun _ => 0))) (fun _ => rfl) (by decide) (by decide) (by decide) (k2 := 4) (n2 := 160) rfl rfl ⟨by decide, by decide⟩ dX1_init_36 (fun q4 => ?_)
  refine k_putF C 4 k_1 ty_1 (by decide) rfl rfl x_479 rfl rfl (Nat.le_of_ble_eq_true rfl) (fs2 := [.int 0, .ref q1, .ref q2, .ref q3, .ref q4, .int 0]) rfl dX1_init_38 ?_
  refine k_aload_n B 0 dX1_init_41 rfl ?_
  refine k_iconst B (v := 0) dX1_init_42 (by decide) ?_
  refine k_put B 5 k_1 ty_1 (by decide) rfl x_480 rfl rfl (Nat.le_of_ble_eq_true rfl) (fs2 := [.int 0, .ref q1, .ref q2, .ref q3, .ref q4, .int 0]) rfl dX1_init_43 ?_
  exact k_ret C rfl rfl dX1_init_46 ⟨q1, q2, q3, q4, rfl⟩
def N_X8_init : Mn := (yX8_init, cX8_init, 2, { frames := 1, cells := 0, slots := 0, locals := 20 })
theorem n_X8_init : N_X8_init.ok := ⟨by decide, by decide, by decide, x_74, x_127, x_126, rfl⟩
theorem pn_X8_init : (parseMethodDescriptor N_X8_init.1.desc).map (fun d => d.parameters.length) = some 1 := by decide +kernel
def P_X8_init (cI cZ cJ : ClassId) (h0 : Nat) (g1 : Nat) : va_W → Prop := fun ws => ws = [(h0, .inr (8, [.ref g1, .int 0, .int 0, .int 0, .int 0, .int 0, .int 0, .int 0]))]
theorem c_X8_init (D : va_G) (cI cZ cJ : ClassId) (h0 : Nat) (g1 : Nat) : CtN N_X8_init D [(cI, .int), (cZ, .boolean), (cJ, .long)] [.ref h0, .ref g1] (h0, .inr (8, [.null, .int 0, .int 0, .int 0, .int 0, .int 0, .int 0, .int 0])) (P_X8_init cI cZ cJ h0 g1) := by
  refine ctN_of n_X8_init (Nat.le_of_ble_eq_true rfl) (lv := [(0, .ref h0), (1, .ref g1)]) rfl (fun K A C => ?_)
  have C : CC K D [(cI, .int), (cZ, .boolean), (cJ, .long)] A cX8_init 2 RX8 { frames := 1, cells := 0, slots := 0, locals := 20 } := C
  have B := C.1
  show VC K D A 2 (QN K D [(cI, .int), (cZ, .boolean), (cJ, .long)] A (P_X8_init cI cZ cJ h0 g1) 0 0) 0 0 0 [(0, .ref h0), (1, .ref g1)] [] [(h0, .inr (8, [.null, .int 0, .int 0, .int 0, .int 0, .int 0, .int 0, .int 0]))]
  refine k_aload_n B 0 dX8_init_0 rfl ?_
  refine k_obj B x_128 x_102 xk_103 ⟨by decide, by decide⟩ (by decide) dX8_init_1 ?_
  refine k_aload_n B 0 dX8_init_4 rfl ?_
  refine k_iconst B (v := 0) dX8_init_5 (by decide) ?_
  refine k_put B 1 k_8 ty_8 (by decide) rfl x_130 rfl rfl (Nat.le_of_ble_eq_true rfl) (fs2 := [.null, .int 0, .int 0, .int 0, .int 0, .int 0, .int 0, .int 0]) rfl dX8_init_6 ?_
  refine k_aload_n B 0 dX8_init_9 rfl ?_
  refine k_iconst B (v := 0) dX8_init_10 (by decide) ?_
  refine k_put B 2 k_8 ty_8 (by decide) rfl x_131 rfl rfl (Nat.le_of_ble_eq_true rfl) (fs2 := [.null, .int 0, .int 0, .int 0, .int 0, .int 0, .int 0, .int 0]) rfl dX8_init_11 ?_
  refine k_aload_n B 0 dX8_init_14 rfl ?_
  refine k_iconst B (v := 0) dX8_init_15 (by decide) ?_
  refine k_put B 3 k_8 ty_8 (by decide) rfl x_132 rfl rfl (Nat.le_of_ble_eq_true rfl) (fs2 := [.null, .int 0, .int 0, .int 0, .int 0, .int 0, .int 0, .int 0]) rfl dX8_init_16 ?_
  refine k_aload_n B 0 dX8_init_19 rfl ?_
  refine k_iconst B (v := 0) dX8_init_20 (by decide) ?_
  refine k_put B 4 k_8 ty_8 (by decide) rfl x_133 rfl rfl (Nat.le_of_ble_eq_true rfl) (fs2 := [.null, .int 0, .int 0, .int 0, .int 0, .int 0, .int 0, .int 0]) rfl dX8_init_21 ?_
  refine k_aload_n B 0 dX8_init_24 rfl ?_
  refine k_iconst B (v := 0) dX8_init_25 (by decide) ?_
  refine k_put B 5 k_8 ty_8 (by decide) rfl x_134 rfl rfl (Nat.le_of_ble_eq_true rfl) (fs2 := [.null, .int 0, .int 0, .int 0, .int 0, .int 0, .int 0, .int 0]) rfl dX8_init_26 ?_
  refine k_aload_n B 0 dX8_init_29 rfl ?_
  refine k_iconst B (v := 0) dX8_init_30 (by decide) ?_
  refine k_put B 6 k_8 ty_8 (by decide) rfl x_135 rfl rfl (Nat.le_of_ble_eq_true rfl) (fs2 := [.null, .int 0, .int 0, .int 0, .int 0, .int 0, .int 0, .int 0]) rfl dX8_init_31 ?_
  refine k_aload_n B 0 dX8_init_34 rfl ?_
  refine k_iconst B (v := 0) dX8_init_35 (by decide) ?_
  refine k_put B 7 k_8 ty_8 (by decide) rfl x_137 rfl rfl (Nat.le_of_ble_eq_true rfl) (fs2 := [.null, .int 0, .int 0, .int 0, .int 0, .int 0, .int 0, .int 0]) rfl dX8_init_36 ?_
  refine k_aload_n B 0 dX8_init_39 rfl ?_
  refine k_aload_n B 1 dX8_init_40 rfl ?_
  refine k_putF C 0 k_8 ty_8 (by decide) rfl rfl x_129 rfl rfl (Nat.le_of_ble_eq_true rfl) (fs2 := [.ref g1, .int 0, .int 0, .int 0, .int 0, .int 0, .int 0, .int 0]) rfl dX8_init_41 ?_
  exact k_ret C rfl rfl dX8_init_44 rfl
def N_X9_init : Mn := (yX9_init, cX9_init, 2, { frames := 2, cells := 8, slots := 129, locals := 40 })
theorem n_X9_init : N_X9_init.ok := ⟨by decide, by decide, by decide, x_75, x_160, x_159, rfl⟩
theorem pn_X9_init : (parseMethodDescriptor N_X9_init.1.desc).map (fun d => d.parameters.length) = some 1 := by decide +kernel
def P_X9_init (cI cZ cJ : ClassId) (h0 : Nat) (g1 : Nat) : va_W → Prop := fun ws => ∃ q1 q1_1 q1_2 q1_3 q1_4 q1_5 q1_6 q1_7 : Nat, ws = [(h0, .inr (9, [.ref g1, .ref q1, .int (-1), .int (-1)])), (q1, .inr (5, [.int 0, .int 700, .int 40, .ref q1_1, .ref q1_2, .ref q1_3, .ref q1_4, .ref q1_5, .ref q1_6, .ref q1_7])), (q1_1, .inl (cI, (17, .inl (fun _ => 0)))), (q1_2, .inl (cI, (17, .inl (fun _ => 0)))), (q1_3, .inl (cI, (17, .inl (fun _ => 0)))), (q1_4, .inl (cI, (17, .inl (fun _ => 0)))), (q1_5, .inl (cI, (17, .inl (fun _ => 0)))), (q1_6, .inl (cI, (17, .inl (fun _ => 0)))), (q1_7, .inl (cI, (17, .inl (fun _ => 0))))]
theorem c_X9_init (D : va_G) (cI cZ cJ : ClassId) (h0 : Nat) (g1 : Nat) : CtN N_X9_init D [(cI, .int), (cZ, .boolean), (cJ, .long)] [.ref h0, .ref g1] (h0, .inr (9, [.null, .null, .int 0, .int 0])) (P_X9_init cI cZ cJ h0 g1) := by
  refine ctN_of n_X9_init (Nat.le_of_ble_eq_true rfl) (lv := [(0, .ref h0), (1, .ref g1)]) rfl (fun K A C => ?_)
  have C : CC K D [(cI, .int), (cZ, .boolean), (cJ, .long)] A cX9_init 2 RX9 { frames := 2, cells := 8, slots := 129, locals := 40 } := C
  have B := C.1
  show VC K D A 2 (QN K D [(cI, .int), (cZ, .boolean), (cJ, .long)] A (P_X9_init cI cZ cJ h0 g1) 8 129) 0 0 0 [(0, .ref h0), (1, .ref g1)] [] [(h0, .inr (9, [.null, .null, .int 0, .int 0]))]
  refine k_aload_n B 0 dX9_init_0 rfl ?_
  refine k_obj B x_161 x_102 xk_103 ⟨by decide, by decide⟩ (by decide) dX9_init_1 ?_
  refine k_aload_n B 0 dX9_init_4 rfl ?_
  refine k_new B (ci := 5) (fs := [.int 0, .int 0, .int 0, .null, .null, .null, .null, .null, .null, .null]) (N := 10) k_5 ty_5 rfl xk_162 xk_163 x_76 (fun j hj => by rcases (show j = 0 ∨ j = 1 ∨ j = 2 ∨ j = 3 ∨ j = 4 ∨ j = 5 ∨ j = 6 ∨ j = 7 ∨ j = 8 ∨ j = 9 by omega) with rfl | rfl | rfl | rfl | rfl | rfl | rfl | rfl | rfl | rfl <;> rfl) (k2 := 1) (n2 := 10) rfl rfl ⟨by decide, by decide⟩ dX9_init_5 (fun q1 => ?_)
  refine k_dup B dX9_init_8 rfl ?_
  refine k_callN B (M := N_X5_init) q1 (c_X5_init D cI cZ cJ q1) n_X5_init (List.mem_of_getElem? (i := 1) rfl) pn_X5_init ⟨by decide, by decide⟩ (k2 := 8) (n2 := 129) rfl rfl ⟨by decide, by decide⟩ rfl (Nat.le_of_ble_eq_true rfl) dX9_init_9 ?_
  rintro w_ ⟨q1_1, q1_2, q1_3, q1_4, q1_5, q1_6, q1_7, rfl⟩
  refine k_putF C 1 k_9 ty_9 (by decide) rfl rfl x_218 rfl rfl (Nat.le_of_ble_eq_true rfl) (fs2 := [.null, .ref q1, .int 0, .int 0]) rfl dX9_init_12 ?_
  refine k_aload_n B 0 dX9_init_15 rfl ?_
  refine k_iconst B (v := (-1)) dX9_init_16 (by decide) ?_
  refine k_put B 2 k_9 ty_9 (by decide) rfl x_220 rfl rfl (Nat.le_of_ble_eq_true rfl) (fs2 := [.null, .ref q1, .int (-1), .int 0]) rfl dX9_init_17 ?_
  refine k_aload_n B 0 dX9_init_20 rfl ?_
  refine k_iconst B (v := (-1)) dX9_init_21 (by decide) ?_
  refine k_put B 3 k_9 ty_9 (by decide) rfl x_221 rfl rfl (Nat.le_of_ble_eq_true rfl) (fs2 := [.null, .ref q1, .int (-1), .int (-1)]) rfl dX9_init_22 ?_
  refine k_aload_n B 0 dX9_init_25 rfl ?_
  refine k_aload_n B 1 dX9_init_26 rfl ?_
  refine k_putF C 0 k_9 ty_9 (by decide) rfl rfl x_217 rfl rfl (Nat.le_of_ble_eq_true rfl) (fs2 := [.ref g1, .ref q1, .int (-1), .int (-1)]) rfl dX9_init_27 ?_
  exact k_ret C rfl rfl dX9_init_30 ⟨q1, q1_1, q1_2, q1_3, q1_4, q1_5, q1_6, q1_7, rfl⟩
def N_X3_init : Mn := (yX3_init, cX3_init, 2, { frames := 2, cells := 4, slots := 65, locals := 40 })
theorem n_X3_init : N_X3_init.ok := ⟨by decide, by decide, by decide, x_77, x_235, x_234, rfl⟩
theorem pn_X3_init : (parseMethodDescriptor N_X3_init.1.desc).map (fun d => d.parameters.length) = some 1 := by decide +kernel
def P_X3_init (cI cZ cJ : ClassId) (h0 : Nat) (g1 : Nat) : va_W → Prop := fun ws => ∃ q1 q1_1 q1_2 q1_3 : Nat, ws = [(h0, .inr (3, [.ref g1, .ref q1])), (q1, .inr (4, [.int 0, .int 0, .ref q1_1, .ref q1_2, .ref q1_3])), (q1_1, .inl (cI, (20, .inl (fun _ => 0)))), (q1_2, .inl (cI, (20, .inl (fun _ => 0)))), (q1_3, .inl (cI, (20, .inl (fun _ => 0))))]
theorem c_X3_init (D : va_G) (cI cZ cJ : ClassId) (h0 : Nat) (g1 : Nat) : CtN N_X3_init D [(cI, .int), (cZ, .boolean), (cJ, .long)] [.ref h0, .ref g1] (h0, .inr (3, [.null, .null])) (P_X3_init cI cZ cJ h0 g1) := by
  refine ctN_of n_X3_init (Nat.le_of_ble_eq_true rfl) (lv := [(0, .ref h0), (1, .ref g1)]) rfl (fun K A C => ?_)
  have C : CC K D [(cI, .int), (cZ, .boolean), (cJ, .long)] A cX3_init 2 RX3 { frames := 2, cells := 4, slots := 65, locals := 40 } := C
  have B := C.1
  show VC K D A 2 (QN K D [(cI, .int), (cZ, .boolean), (cJ, .long)] A (P_X3_init cI cZ cJ h0 g1) 4 65) 0 0 0 [(0, .ref h0), (1, .ref g1)] [] [(h0, .inr (3, [.null, .null]))]
  refine k_aload_n B 0 dX3_init_0 rfl ?_
  refine k_obj B x_236 x_102 xk_103 ⟨by decide, by decide⟩ (by decide) dX3_init_1 ?_
  refine k_aload_n B 0 dX3_init_4 rfl ?_
  refine k_new B (ci := 4) (fs := [.int 0, .int 0, .null, .null, .null]) (N := 5) k_4 ty_4 rfl xk_237 xk_238 x_78 (fun j hj => by rcases (show j = 0 ∨ j = 1 ∨ j = 2 ∨ j = 3 ∨ j = 4 by omega) with rfl | rfl | rfl | rfl | rfl <;> rfl) (k2 := 1) (n2 := 5) rfl rfl ⟨by decide, by decide⟩ dX3_init_5 (fun q1 => ?_)
  refine k_dup B dX3_init_8 rfl ?_
  refine k_callN B (M := N_X4_init) q1 (c_X4_init D cI cZ cJ q1) n_X4_init (List.mem_of_getElem? (i := 2) rfl) pn_X4_init ⟨by decide, by decide⟩ (k2 := 4) (n2 := 65) rfl rfl ⟨by decide, by decide⟩ rfl (Nat.le_of_ble_eq_true rfl) dX3_init_9 ?_
  rintro w_ ⟨q1_1, q1_2, q1_3, rfl⟩
  refine k_putF C 1 k_3 ty_3 (by decide) rfl rfl x_264 rfl rfl (Nat.le_of_ble_eq_true rfl) (fs2 := [.null, .ref q1]) rfl dX3_init_12 ?_
  refine k_aload_n B 0 dX3_init_15 rfl ?_
  refine k_aload_n B 1 dX3_init_16 rfl ?_
  refine k_putF C 0 k_3 ty_3 (by decide) rfl rfl x_263 rfl rfl (Nat.le_of_ble_eq_true rfl) (fs2 := [.ref g1, .ref q1]) rfl dX3_init_17 ?_
  exact k_ret C rfl rfl dX3_init_20 ⟨q1, q1_1, q1_2, q1_3, rfl⟩
def N_X10_init : Mn := (yX10_init, cX10_init, 3, { frames := 2, cells := 23, slots := 321, locals := 40 })
theorem n_X10_init : N_X10_init.ok := ⟨by decide, by decide, by decide, x_81, x_349, x_348, rfl⟩
theorem pn_X10_init : (parseMethodDescriptor N_X10_init.1.desc).map (fun d => d.parameters.length) = some 2 := by decide +kernel
def P_X10_init (cI cZ cJ : ClassId) (h0 : Nat) (g1 : Nat) (g2 : Nat) : va_W → Prop := fun ws => ∃ q1 q1_1 q1_2 q1_3 q1_4 q1_5 q1_6 q1_7 q2 q2_1 q2_2 q2_3 q2_4 q3 q3_1 q3_2 q3_3 q3_4 q4 q5 q6 q7 q8 : Nat, ws = [(h0, .inr (10, [.ref g1, .ref g2, .ref q1, .ref q2, .ref q3, .ref q4, .ref q5, .ref q6, .ref q7, .int 0, .ref q8, .int 0, .int 0, .int 0])), (q1, .inr (5, [.int 0, .int 700, .int 40, .ref q1_1, .ref q1_2, .ref q1_3, .ref q1_4, .ref q1_5, .ref q1_6, .ref q1_7])), (q1_1, .inl (cI, (17, .inl (fun _ => 0)))), (q1_2, .inl (cI, (17, .inl (fun _ => 0)))), (q1_3, .inl (cI, (17, .inl (fun _ => 0)))), (q1_4, .inl (cI, (17, .inl (fun _ => 0)))), (q1_5, .inl (cI, (17, .inl (fun _ => 0)))), (q1_6, .inl (cI, (17, .inl (fun _ => 0)))), (q1_7, .inl (cI, (17, .inl (fun _ => 0)))), (q2, .inr (0, [.ref q2_1, .ref q2_2, .ref q2_3, .ref q2_4, .int 0, .int 0, .int 0, .int (-1), .int 0, .int 0])), (q2_1, .inl (cI, (17, .inl (fun _ => 0)))), (q2_2, .inl (cI, (17, .inl (fun _ => 0)))), (q2_3, .inl (cI, (17, .inl (fun _ => 0)))), (q2_4, .inl (cI, (17, .inl (fun _ => 0)))), (q3, .inr (0, [.ref q3_1, .ref q3_2, .ref q3_3, .ref q3_4, .int 0, .int 0, .int 0, .int (-1), .int 0, .int 0])), (q3_1, .inl (cI, (17, .inl (fun _ => 0)))), (q3_2, .inl (cI, (17, .inl (fun _ => 0)))), (q3_3, .inl (cI, (17, .inl (fun _ => 0)))), (q3_4, .inl (cI, (17, .inl (fun _ => 0)))), (q4, .inr (6, [.int 0, .int 0, .int 0, .int 0, .int 0, .int 0, .int 0])), (q5, .inr (6, [.int 0, .int 0, .int 0, .int 0, .int 0, .int 0, .int 0])), (q6, .inl (cI, (6, .inl (fun _ => 0)))), (q7, .inl (cI, (6, .inl (fun _ => 0)))), (q8, .inl (cI, (10, .inl (fun _ => 0))))]
theorem c_X10_init (D : va_G) (cI cZ cJ : ClassId) (h0 : Nat) (g1 : Nat) (g2 : Nat) : CtN N_X10_init D [(cI, .int), (cZ, .boolean), (cJ, .long)] [.ref h0, .ref g1, .ref g2] (h0, .inr (10, [.null, .null, .null, .null, .null, .null, .null, .null, .null, .int 0, .null, .int 0, .int 0, .int 0])) (P_X10_init cI cZ cJ h0 g1 g2) := by
  refine ctN_of n_X10_init (Nat.le_of_ble_eq_true rfl) (lv := [(0, .ref h0), (1, .ref g1), (2, .ref g2)]) rfl (fun K A C => ?_)
  have C : CC K D [(cI, .int), (cZ, .boolean), (cJ, .long)] A cX10_init 3 RX10 { frames := 2, cells := 23, slots := 321, locals := 40 } := C
  have B := C.1
  show VC K D A 3 (QN K D [(cI, .int), (cZ, .boolean), (cJ, .long)] A (P_X10_init cI cZ cJ h0 g1 g2) 23 321) 0 0 0 [(0, .ref h0), (1, .ref g1), (2, .ref g2)] [] [(h0, .inr (10, [.null, .null, .null, .null, .null, .null, .null, .null, .null, .int 0, .null, .int 0, .int 0, .int 0]))]
  refine k_aload_n B 0 dX10_init_0 rfl ?_
  refine k_obj B x_350 x_102 xk_103 ⟨by decide, by decide⟩ (by decide) dX10_init_1 ?_
  refine k_aload_n B 0 dX10_init_4 rfl ?_
  refine k_new B (ci := 5) (fs := [.int 0, .int 0, .int 0, .null, .null, .null, .null, .null, .null, .null]) (N := 10) k_5 ty_5 rfl xk_351 xk_163 x_76 (fun j hj => by rcases (show j = 0 ∨ j = 1 ∨ j = 2 ∨ j = 3 ∨ j = 4 ∨ j = 5 ∨ j = 6 ∨ j = 7 ∨ j = 8 ∨ j = 9 by omega) with rfl | rfl | rfl | rfl | rfl | rfl | rfl | rfl | rfl | rfl <;> rfl) (k2 := 1) (n2 := 10) rfl rfl ⟨by decide, by decide⟩ dX10_init_5 (fun q1 => ?_)
  refine k_dup B dX10_init_8 rfl ?_
  refine k_callN B (M := N_X5_init) q1 (c_X5_init D cI cZ cJ q1) n_X5_init (List.mem_of_getElem? (i := 7) rfl) pn_X5_init ⟨by decide, by decide⟩ (k2 := 8) (n2 := 129) rfl rfl ⟨by decide, by decide⟩ rfl (Nat.le_of_ble_eq_true rfl) dX10_init_9 ?_
  rintro w_ ⟨q1_1, q1_2, q1_3, q1_4, q1_5, q1_6, q1_7, rfl⟩
  refine k_putF C 2 k_10 ty_10 (by decide) rfl rfl x_359 rfl rfl (Nat.le_of_ble_eq_true rfl) (fs2 := [.null, .null, .ref q1, .null, .null, .null, .null, .null, .null, .int 0, .null, .int 0, .int 0, .int 0]) rfl dX10_init_12 ?_
  refine k_aload_n B 0 dX10_init_15 rfl ?_
  refine k_new B (ci := 0) (fs := [.null, .null, .null, .null, .int 0, .int 0, .int 0, .int 0, .int 0, .int 0]) (N := 10) k_0 ty_0 rfl xk_353 xk_276 x_79 (fun j hj => by rcases (show j = 0 ∨ j = 1 ∨ j = 2 ∨ j = 3 ∨ j = 4 ∨ j = 5 ∨ j = 6 ∨ j = 7 ∨ j = 8 ∨ j = 9 by omega) with rfl | rfl | rfl | rfl | rfl | rfl | rfl | rfl | rfl | rfl <;> rfl) (k2 := 9) (n2 := 139) rfl rfl ⟨by decide, by decide⟩ dX10_init_16 (fun q2 => ?_)
  refine k_dup B dX10_init_19 rfl ?_
  refine k_callN B (M := N_X0_init) q2 (c_X0_init D cI cZ cJ q2) n_X0_init (List.mem_of_getElem? (i := 8) rfl) pn_X0_init ⟨by decide, by decide⟩ (k2 := 13) (n2 := 207) rfl rfl ⟨by decide, by decide⟩ rfl (Nat.le_of_ble_eq_true rfl) dX10_init_20 ?_
  rintro w_ ⟨q2_1, q2_2, q2_3, q2_4, rfl⟩
  refine k_putF C 3 k_10 ty_10 (by decide) rfl rfl x_360 rfl rfl (Nat.le_of_ble_eq_true rfl) (fs2 := [.null, .null, .ref q1, .ref q2, .null, .null, .null, .null, .null, .int 0, .null, .int 0, .int 0, .int 0]) rfl dX10_init_23 ?_
  refine k_aload_n B 0 dX10_init_26 rfl ?_
  refine k_new B (ci := 0) (fs := [.null, .null, .null, .null, .int 0, .int 0, .int 0, .int 0, .int 0, .int 0]) (N := 10) k_0 ty_0 rfl xk_353 xk_276 x_79 (fun j hj => by rcases (show j = 0 ∨ j = 1 ∨ j = 2 ∨ j = 3 ∨ j = 4 ∨ j = 5 ∨ j = 6 ∨ j = 7 ∨ j = 8 ∨ j = 9 by omega) with rfl | rfl | rfl | rfl | rfl | rfl | rfl | rfl | rfl | rfl <;> rfl) (k2 := 14) (n2 := 217) rfl rfl ⟨by decide, by decide⟩ dX10_init_27 (fun q3 => ?_)
  refine k_dup B dX10_init_30 rfl ?_
  refine k_callN B (M := N_X0_init) q3 (c_X0_init D cI cZ cJ q3) n_X0_init (List.mem_of_getElem? (i := 8) rfl) pn_X0_init ⟨by decide, by decide⟩ (k2 := 18) (n2 := 285) rfl rfl ⟨by decide, by decide⟩ rfl (Nat.le_of_ble_eq_true rfl) dX10_init_31 ?_
  rintro w_ ⟨q3_1, q3_2, q3_3, q3_4, rfl⟩
  refine k_putF C 4 k_10 ty_10 (by decide) rfl rfl x_361 rfl rfl (Nat.le_of_ble_eq_true rfl) (fs2 := [.null, .null, .ref q1, .ref q2, .ref q3, .null, .null, .null, .null, .int 0, .null, .int 0, .int 0, .int 0]) rfl dX10_init_34 ?_
  refine k_aload_n B 0 dX10_init_37 rfl ?_
  refine k_new B (ci := 6) (fs := [.int 0, .int 0, .int 0, .int 0, .int 0, .int 0, .int 0]) (N := 7) k_6 ty_6 rfl xk_355 xk_315 x_80 (fun j hj => by rcases (show j = 0 ∨ j = 1 ∨ j = 2 ∨ j = 3 ∨ j = 4 ∨ j = 5 ∨ j = 6 by omega) with rfl | rfl | rfl | rfl | rfl | rfl | rfl <;> rfl) (k2 := 19) (n2 := 292) rfl rfl ⟨by decide, by decide⟩ dX10_init_38 (fun q4 => ?_)
  refine k_dup B dX10_init_41 rfl ?_
  refine k_callN B (M := N_X6_init) q4 (c_X6_init D cI cZ cJ q4) n_X6_init (List.mem_of_getElem? (i := 9) rfl) pn_X6_init ⟨by decide, by decide⟩ (k2 := 19) (n2 := 292) rfl rfl ⟨by decide, by decide⟩ rfl (Nat.le_of_ble_eq_true rfl) dX10_init_42 ?_
  rintro w_ ⟨rfl⟩
  refine k_putF C 5 k_10 ty_10 (by decide) rfl rfl x_362 rfl rfl (Nat.le_of_ble_eq_true rfl) (fs2 := [.null, .null, .ref q1, .ref q2, .ref q3, .ref q4, .null, .null, .null, .int 0, .null, .int 0, .int 0, .int 0]) rfl dX10_init_45 ?_
  refine k_aload_n B 0 dX10_init_48 rfl ?_
  refine k_new B (ci := 6) (fs := [.int 0, .int 0, .int 0, .int 0, .int 0, .int 0, .int 0]) (N := 7) k_6 ty_6 rfl xk_355 xk_315 x_80 (fun j hj => by rcases (show j = 0 ∨ j = 1 ∨ j = 2 ∨ j = 3 ∨ j = 4 ∨ j = 5 ∨ j = 6 by omega) with rfl | rfl | rfl | rfl | rfl | rfl | rfl <;> rfl) (k2 := 20) (n2 := 299) rfl rfl ⟨by decide, by decide⟩ dX10_init_49 (fun q5 => ?_)
  refine k_dup B dX10_init_52 rfl ?_
  refine k_callN B (M := N_X6_init) q5 (c_X6_init D cI cZ cJ q5) n_X6_init (List.mem_of_getElem? (i := 9) rfl) pn_X6_init ⟨by decide, by decide⟩ (k2 := 20) (n2 := 299) rfl rfl ⟨by decide, by decide⟩ rfl (Nat.le_of_ble_eq_true rfl) dX10_init_53 ?_
  rintro w_ ⟨rfl⟩
  refine k_putF C 6 k_10 ty_10 (by decide) rfl rfl x_363 rfl rfl (Nat.le_of_ble_eq_true rfl) (fs2 := [.null, .null, .ref q1, .ref q2, .ref q3, .ref q4, .ref q5, .null, .null, .int 0, .null, .int 0, .int 0, .int 0]) rfl dX10_init_56 ?_
  refine k_aload_n B 0 dX10_init_59 rfl ?_
  refine k_bipush B (v := 6) dX10_init_60 (by decide) ?_
  refine k_newa B .int (ty := .int) rfl xk_122 0 rfl (fun _ => rfl) (N := 6) (a0 := (6, .inl (fun _ => 0))) (fun _ => rfl) (by decide) (by decide) (by decide) (k2 := 21) (n2 := 305) rfl rfl ⟨by decide, by decide⟩ dX10_init_62 (fun q6 => ?_)
  refine k_putF C 7 k_10 ty_10 (by decide) rfl rfl x_364 rfl rfl (Nat.le_of_ble_eq_true rfl) (fs2 := [.null, .null, .ref q1, .ref q2, .ref q3, .ref q4, .ref q5, .ref q6, .null, .int 0, .null, .int 0, .int 0, .int 0]) rfl dX10_init_64 ?_
  refine k_aload_n B 0 dX10_init_67 rfl ?_
  refine k_bipush B (v := 6) dX10_init_68 (by decide) ?_
  refine k_newa B .int (ty := .int) rfl xk_122 0 rfl (fun _ => rfl) (N := 6) (a0 := (6, .inl (fun _ => 0))) (fun _ => rfl) (by decide) (by decide) (by decide) (k2 := 22) (n2 := 311) rfl rfl ⟨by decide, by decide⟩ dX10_init_70 (fun q7 => ?_)
  refine k_putF C 8 k_10 ty_10 (by decide) rfl rfl x_365 rfl rfl (Nat.le_of_ble_eq_true rfl) (fs2 := [.null, .null, .ref q1, .ref q2, .ref q3, .ref q4, .ref q5, .ref q6, .ref q7, .int 0, .null, .int 0, .int 0, .int 0]) rfl dX10_init_72 ?_
  refine k_aload_n B 0 dX10_init_75 rfl ?_
  refine k_iconst B (v := 0) dX10_init_76 (by decide) ?_
  refine k_put B 9 k_10 ty_10 (by decide) rfl x_366 rfl rfl (Nat.le_of_ble_eq_true rfl) (fs2 := [.null, .null, .ref q1, .ref q2, .ref q3, .ref q4, .ref q5, .ref q6, .ref q7, .int 0, .null, .int 0, .int 0, .int 0]) rfl dX10_init_77 ?_
  refine k_aload_n B 0 dX10_init_80 rfl ?_
  refine k_bipush B (v := 10) dX10_init_81 (by decide) ?_
  refine k_newa B .int (ty := .int) rfl xk_122 0 rfl (fun _ => rfl) (N := 10) (a0 := (10, .inl (fun _ => 0))) (fun _ => rfl) (by decide) (by decide) (by decide) (k2 := 23) (n2 := 321) rfl rfl ⟨by decide, by decide⟩ dX10_init_83 (fun q8 => ?_)
  refine k_putF C 10 k_10 ty_10 (by decide) rfl rfl x_367 rfl rfl (Nat.le_of_ble_eq_true rfl) (fs2 := [.null, .null, .ref q1, .ref q2, .ref q3, .ref q4, .ref q5, .ref q6, .ref q7, .int 0, .ref q8, .int 0, .int 0, .int 0]) rfl dX10_init_85 ?_
  refine k_aload_n B 0 dX10_init_88 rfl ?_
  refine k_iconst B (v := 0) dX10_init_89 (by decide) ?_
  refine k_put B 11 k_10 ty_10 (by decide) rfl x_368 rfl rfl (Nat.le_of_ble_eq_true rfl) (fs2 := [.null, .null, .ref q1, .ref q2, .ref q3, .ref q4, .ref q5, .ref q6, .ref q7, .int 0, .ref q8, .int 0, .int 0, .int 0]) rfl dX10_init_90 ?_
  refine k_aload_n B 0 dX10_init_93 rfl ?_
  refine k_iconst B (v := 0) dX10_init_94 (by decide) ?_
  refine k_put B 12 k_10 ty_10 (by decide) rfl x_369 rfl rfl (Nat.le_of_ble_eq_true rfl) (fs2 := [.null, .null, .ref q1, .ref q2, .ref q3, .ref q4, .ref q5, .ref q6, .ref q7, .int 0, .ref q8, .int 0, .int 0, .int 0]) rfl dX10_init_95 ?_
  refine k_aload_n B 0 dX10_init_98 rfl ?_
  refine k_iconst B (v := 0) dX10_init_99 (by decide) ?_
  refine k_put B 13 k_10 ty_10 (by decide) rfl x_370 rfl rfl (Nat.le_of_ble_eq_true rfl) (fs2 := [.null, .null, .ref q1, .ref q2, .ref q3, .ref q4, .ref q5, .ref q6, .ref q7, .int 0, .ref q8, .int 0, .int 0, .int 0]) rfl dX10_init_100 ?_
  refine k_aload_n B 0 dX10_init_103 rfl ?_
  refine k_aload_n B 1 dX10_init_104 rfl ?_
  refine k_putF C 0 k_10 ty_10 (by decide) rfl rfl x_357 rfl rfl (Nat.le_of_ble_eq_true rfl) (fs2 := [.ref g1, .null, .ref q1, .ref q2, .ref q3, .ref q4, .ref q5, .ref q6, .ref q7, .int 0, .ref q8, .int 0, .int 0, .int 0]) rfl dX10_init_105 ?_
  refine k_aload_n B 0 dX10_init_108 rfl ?_
  refine k_aload_n B 2 dX10_init_109 rfl ?_
  refine k_putF C 1 k_10 ty_10 (by decide) rfl rfl x_358 rfl rfl (Nat.le_of_ble_eq_true rfl) (fs2 := [.ref g1, .ref g2, .ref q1, .ref q2, .ref q3, .ref q4, .ref q5, .ref q6, .ref q7, .int 0, .ref q8, .int 0, .int 0, .int 0]) rfl dX10_init_110 ?_
  exact k_ret C rfl rfl dX10_init_113 ⟨q1, q1_1, q1_2, q1_3, q1_4, q1_5, q1_6, q1_7, q2, q2_1, q2_2, q2_3, q2_4, q3, q3_1, q3_2, q3_3, q3_4, q4, q5, q6, q7, q8, rfl⟩
def N_X2_init : Mn := (yX2_init, cX2_init, 3, { frames := 2, cells := 19, slots := 570, locals := 40 })
theorem n_X2_init : N_X2_init.ok := ⟨by decide, by decide, by decide, x_82, x_404, x_403, rfl⟩
theorem pn_X2_init : (parseMethodDescriptor N_X2_init.1.desc).map (fun d => d.parameters.length) = some 2 := by decide +kernel
def P_X2_init (cI cZ cJ : ClassId) (h0 : Nat) (g1 : Nat) (g2 : Nat) : va_W → Prop := fun ws => ∃ q1 q1_1 q1_2 q1_3 q1_4 q1_5 q1_6 q1_7 q2 q2_1 q2_2 q2_3 q2_4 q3 q4 q5 q6 q7 q8 : Nat, ws = [(h0, .inr (2, [.ref g1, .ref g2, .ref q1, .ref q2, .ref q3, .ref q4, .ref q5, .int 0, .int 0, .ref q6, .int 0, .int 0, .ref q7, .ref q8, .int 0, .int 0, .int 0, .int 0])), (q1, .inr (5, [.int 0, .int 700, .int 40, .ref q1_1, .ref q1_2, .ref q1_3, .ref q1_4, .ref q1_5, .ref q1_6, .ref q1_7])), (q1_1, .inl (cI, (17, .inl (fun _ => 0)))), (q1_2, .inl (cI, (17, .inl (fun _ => 0)))), (q1_3, .inl (cI, (17, .inl (fun _ => 0)))), (q1_4, .inl (cI, (17, .inl (fun _ => 0)))), (q1_5, .inl (cI, (17, .inl (fun _ => 0)))), (q1_6, .inl (cI, (17, .inl (fun _ => 0)))), (q1_7, .inl (cI, (17, .inl (fun _ => 0)))), (q2, .inr (0, [.ref q2_1, .ref q2_2, .ref q2_3, .ref q2_4, .int 0, .int 0, .int 0, .int (-1), .int 0, .int 0])), (q2_1, .inl (cI, (17, .inl (fun _ => 0)))), (q2_2, .inl (cI, (17, .inl (fun _ => 0)))), (q2_3, .inl (cI, (17, .inl (fun _ => 0)))), (q2_4, .inl (cI, (17, .inl (fun _ => 0)))), (q3, .inl (cI, (8, .inl (fun _ => 0)))), (q4, .inl (cI, (8, .inl (fun _ => 0)))), (q5, .inl (cI, (8, .inl (fun _ => 0)))), (q6, .inl (cI, (113, .inl (fun _ => 0)))), (q7, .inl (cI, (113, .inl (fun _ => 0)))), (q8, .inl (cI, (113, .inl (fun _ => 0))))]
theorem c_X2_init (D : va_G) (cI cZ cJ : ClassId) (h0 : Nat) (g1 : Nat) (g2 : Nat) : CtN N_X2_init D [(cI, .int), (cZ, .boolean), (cJ, .long)] [.ref h0, .ref g1, .ref g2] (h0, .inr (2, [.null, .null, .null, .null, .null, .null, .null, .int 0, .int 0, .null, .int 0, .int 0, .null, .null, .int 0, .int 0, .int 0, .int 0])) (P_X2_init cI cZ cJ h0 g1 g2) := by
  refine ctN_of n_X2_init (Nat.le_of_ble_eq_true rfl) (lv := [(0, .ref h0), (1, .ref g1), (2, .ref g2)]) rfl (fun K A C => ?_)
  have C : CC K D [(cI, .int), (cZ, .boolean), (cJ, .long)] A cX2_init 3 RX2 { frames := 2, cells := 19, slots := 570, locals := 40 } := C
  have B := C.1
  show VC K D A 3 (QN K D [(cI, .int), (cZ, .boolean), (cJ, .long)] A (P_X2_init cI cZ cJ h0 g1 g2) 19 570) 0 0 0 [(0, .ref h0), (1, .ref g1), (2, .ref g2)] [] [(h0, .inr (2, [.null, .null, .null, .null, .null, .null, .null, .int 0, .int 0, .null, .int 0, .int 0, .null, .null, .int 0, .int 0, .int 0, .int 0]))]
  refine k_aload_n B 0 dX2_init_0 rfl ?_
  refine k_obj B x_405 x_102 xk_103 ⟨by decide, by decide⟩ (by decide) dX2_init_1 ?_
  refine k_aload_n B 0 dX2_init_4 rfl ?_
  refine k_new B (ci := 5) (fs := [.int 0, .int 0, .int 0, .null, .null, .null, .null, .null, .null, .null]) (N := 10) k_5 ty_5 rfl xk_406 xk_163 x_76 (fun j hj => by rcases (show j = 0 ∨ j = 1 ∨ j = 2 ∨ j = 3 ∨ j = 4 ∨ j = 5 ∨ j = 6 ∨ j = 7 ∨ j = 8 ∨ j = 9 by omega) with rfl | rfl | rfl | rfl | rfl | rfl | rfl | rfl | rfl | rfl <;> rfl) (k2 := 1) (n2 := 10) rfl rfl ⟨by decide, by decide⟩ dX2_init_5 (fun q1 => ?_)
  refine k_dup B dX2_init_8 rfl ?_
  refine k_callN B (M := N_X5_init) q1 (c_X5_init D cI cZ cJ q1) n_X5_init (List.mem_of_getElem? (i := 10) rfl) pn_X5_init ⟨by decide, by decide⟩ (k2 := 8) (n2 := 129) rfl rfl ⟨by decide, by decide⟩ rfl (Nat.le_of_ble_eq_true rfl) dX2_init_9 ?_
  rintro w_ ⟨q1_1, q1_2, q1_3, q1_4, q1_5, q1_6, q1_7, rfl⟩
  refine k_putF C 2 k_2 ty_2 (by decide) rfl rfl x_412 rfl rfl (Nat.le_of_ble_eq_true rfl) (fs2 := [.null, .null, .ref q1, .null, .null, .null, .null, .int 0, .int 0, .null, .int 0, .int 0, .null, .null, .int 0, .int 0, .int 0, .int 0]) rfl dX2_init_12 ?_
  refine k_aload_n B 0 dX2_init_15 rfl ?_
  refine k_new B (ci := 0) (fs := [.null, .null, .null, .null, .int 0, .int 0, .int 0, .int 0, .int 0, .int 0]) (N := 10) k_0 ty_0 rfl xk_408 xk_276 x_79 (fun j hj => by rcases (show j = 0 ∨ j = 1 ∨ j = 2 ∨ j = 3 ∨ j = 4 ∨ j = 5 ∨ j = 6 ∨ j = 7 ∨ j = 8 ∨ j = 9 by omega) with rfl | rfl | rfl | rfl | rfl | rfl | rfl | rfl | rfl | rfl <;> rfl) (k2 := 9) (n2 := 139) rfl rfl ⟨by decide, by decide⟩ dX2_init_16 (fun q2 => ?_)
  refine k_dup B dX2_init_19 rfl ?_
  refine k_callN B (M := N_X0_init) q2 (c_X0_init D cI cZ cJ q2) n_X0_init (List.mem_of_getElem? (i := 11) rfl) pn_X0_init ⟨by decide, by decide⟩ (k2 := 13) (n2 := 207) rfl rfl ⟨by decide, by decide⟩ rfl (Nat.le_of_ble_eq_true rfl) dX2_init_20 ?_
  rintro w_ ⟨q2_1, q2_2, q2_3, q2_4, rfl⟩
  refine k_putF C 3 k_2 ty_2 (by decide) rfl rfl x_413 rfl rfl (Nat.le_of_ble_eq_true rfl) (fs2 := [.null, .null, .ref q1, .ref q2, .null, .null, .null, .int 0, .int 0, .null, .int 0, .int 0, .null, .null, .int 0, .int 0, .int 0, .int 0]) rfl dX2_init_23 ?_
  refine k_aload_n B 0 dX2_init_26 rfl ?_
  refine k_bipush B (v := 8) dX2_init_27 (by decide) ?_
  refine k_newa B .int (ty := .int) rfl xk_122 0 rfl (fun _ => rfl) (N := 8) (a0 := (8, .inl (fun _ => 0))) (fun _ => rfl) (by decide) (by decide) (by decide) (k2 := 14) (n2 := 215) rfl rfl ⟨by decide, by decide⟩ dX2_init_29 (fun q3 => ?_)
  refine k_putF C 4 k_2 ty_2 (by decide) rfl rfl x_414 rfl rfl (Nat.le_of_ble_eq_true rfl) (fs2 := [.null, .null, .ref q1, .ref q2, .ref q3, .null, .null, .int 0, .int 0, .null, .int 0, .int 0, .null, .null, .int 0, .int 0, .int 0, .int 0]) rfl dX2_init_31 ?_
  refine k_aload_n B 0 dX2_init_34 rfl ?_
  refine k_bipush B (v := 8) dX2_init_35 (by decide) ?_
  refine k_newa B .int (ty := .int) rfl xk_122 0 rfl (fun _ => rfl) (N := 8) (a0 := (8, .inl (fun _ => 0))) (fun _ => rfl) (by decide) (by decide) (by decide) (k2 := 15) (n2 := 223) rfl rfl ⟨by decide, by decide⟩ dX2_init_37 (fun q4 => ?_)
  refine k_putF C 5 k_2 ty_2 (by decide) rfl rfl x_415 rfl rfl (Nat.le_of_ble_eq_true rfl) (fs2 := [.null, .null, .ref q1, .ref q2, .ref q3, .ref q4, .null, .int 0, .int 0, .null, .int 0, .int 0, .null, .null, .int 0, .int 0, .int 0, .int 0]) rfl dX2_init_39 ?_
  refine k_aload_n B 0 dX2_init_42 rfl ?_
  refine k_bipush B (v := 8) dX2_init_43 (by decide) ?_
  refine k_newa B .int (ty := .int) rfl xk_122 0 rfl (fun _ => rfl) (N := 8) (a0 := (8, .inl (fun _ => 0))) (fun _ => rfl) (by decide) (by decide) (by decide) (k2 := 16) (n2 := 231) rfl rfl ⟨by decide, by decide⟩ dX2_init_45 (fun q5 => ?_)
  refine k_putF C 6 k_2 ty_2 (by decide) rfl rfl x_416 rfl rfl (Nat.le_of_ble_eq_true rfl) (fs2 := [.null, .null, .ref q1, .ref q2, .ref q3, .ref q4, .ref q5, .int 0, .int 0, .null, .int 0, .int 0, .null, .null, .int 0, .int 0, .int 0, .int 0]) rfl dX2_init_47 ?_
  refine k_aload_n B 0 dX2_init_50 rfl ?_
  refine k_iconst B (v := 0) dX2_init_51 (by decide) ?_
  refine k_put B 7 k_2 ty_2 (by decide) rfl x_417 rfl rfl (Nat.le_of_ble_eq_true rfl) (fs2 := [.null, .null, .ref q1, .ref q2, .ref q3, .ref q4, .ref q5, .int 0, .int 0, .null, .int 0, .int 0, .null, .null, .int 0, .int 0, .int 0, .int 0]) rfl dX2_init_52 ?_
  refine k_aload_n B 0 dX2_init_55 rfl ?_
  refine k_iconst B (v := 0) dX2_init_56 (by decide) ?_
  refine k_put B 8 k_2 ty_2 (by decide) rfl x_418 rfl rfl (Nat.le_of_ble_eq_true rfl) (fs2 := [.null, .null, .ref q1, .ref q2, .ref q3, .ref q4, .ref q5, .int 0, .int 0, .null, .int 0, .int 0, .null, .null, .int 0, .int 0, .int 0, .int 0]) rfl dX2_init_57 ?_
  refine k_aload_n B 0 dX2_init_60 rfl ?_
  refine k_bipush B (v := 113) dX2_init_61 (by decide) ?_
  refine k_newa B .int (ty := .int) rfl xk_122 0 rfl (fun _ => rfl) (N := 113) (a0 := (113, .inl (fun _ => 0))) (fun _ => rfl) (by decide) (by decide) (by decide) (k2 := 17) (n2 := 344) rfl rfl ⟨by decide, by decide⟩ dX2_init_63 (fun q6 => ?_)
  refine k_putF C 9 k_2 ty_2 (by decide) rfl rfl x_419 rfl rfl (Nat.le_of_ble_eq_true rfl) (fs2 := [.null, .null, .ref q1, .ref q2, .ref q3, .ref q4, .ref q5, .int 0, .int 0, .ref q6, .int 0, .int 0, .null, .null, .int 0, .int 0, .int 0, .int 0]) rfl dX2_init_65 ?_
  refine k_aload_n B 0 dX2_init_68 rfl ?_
  refine k_iconst B (v := 0) dX2_init_69 (by decide) ?_
  refine k_put B 10 k_2 ty_2 (by decide) rfl x_420 rfl rfl (Nat.le_of_ble_eq_true rfl) (fs2 := [.null, .null, .ref q1, .ref q2, .ref q3, .ref q4, .ref q5, .int 0, .int 0, .ref q6, .int 0, .int 0, .null, .null, .int 0, .int 0, .int 0, .int 0]) rfl dX2_init_70 ?_
  refine k_aload_n B 0 dX2_init_73 rfl ?_
  refine k_iconst B (v := 0) dX2_init_74 (by decide) ?_
  refine k_put B 11 k_2 ty_2 (by decide) rfl x_421 rfl rfl (Nat.le_of_ble_eq_true rfl) (fs2 := [.null, .null, .ref q1, .ref q2, .ref q3, .ref q4, .ref q5, .int 0, .int 0, .ref q6, .int 0, .int 0, .null, .null, .int 0, .int 0, .int 0, .int 0]) rfl dX2_init_75 ?_
  refine k_aload_n B 0 dX2_init_78 rfl ?_
  refine k_bipush B (v := 113) dX2_init_79 (by decide) ?_
  refine k_newa B .int (ty := .int) rfl xk_122 0 rfl (fun _ => rfl) (N := 113) (a0 := (113, .inl (fun _ => 0))) (fun _ => rfl) (by decide) (by decide) (by decide) (k2 := 18) (n2 := 457) rfl rfl ⟨by decide, by decide⟩ dX2_init_81 (fun q7 => ?_)
  refine k_putF C 12 k_2 ty_2 (by decide) rfl rfl x_422 rfl rfl (Nat.le_of_ble_eq_true rfl) (fs2 := [.null, .null, .ref q1, .ref q2, .ref q3, .ref q4, .ref q5, .int 0, .int 0, .ref q6, .int 0, .int 0, .ref q7, .null, .int 0, .int 0, .int 0, .int 0]) rfl dX2_init_83 ?_
  refine k_aload_n B 0 dX2_init_86 rfl ?_
  refine k_bipush B (v := 113) dX2_init_87 (by decide) ?_
  refine k_newa B .int (ty := .int) rfl xk_122 0 rfl (fun _ => rfl) (N := 113) (a0 := (113, .inl (fun _ => 0))) (fun _ => rfl) (by decide) (by decide) (by decide) (k2 := 19) (n2 := 570) rfl rfl ⟨by decide, by decide⟩ dX2_init_89 (fun q8 => ?_)
  refine k_putF C 13 k_2 ty_2 (by decide) rfl rfl x_423 rfl rfl (Nat.le_of_ble_eq_true rfl) (fs2 := [.null, .null, .ref q1, .ref q2, .ref q3, .ref q4, .ref q5, .int 0, .int 0, .ref q6, .int 0, .int 0, .ref q7, .ref q8, .int 0, .int 0, .int 0, .int 0]) rfl dX2_init_91 ?_
  refine k_aload_n B 0 dX2_init_94 rfl ?_
  refine k_iconst B (v := 0) dX2_init_95 (by decide) ?_
  refine k_put B 14 k_2 ty_2 (by decide) rfl x_424 rfl rfl (Nat.le_of_ble_eq_true rfl) (fs2 := [.null, .null, .ref q1, .ref q2, .ref q3, .ref q4, .ref q5, .int 0, .int 0, .ref q6, .int 0, .int 0, .ref q7, .ref q8, .int 0, .int 0, .int 0, .int 0]) rfl dX2_init_96 ?_
  refine k_aload_n B 0 dX2_init_99 rfl ?_
  refine k_iconst B (v := 0) dX2_init_100 (by decide) ?_
  refine k_put B 15 k_2 ty_2 (by decide) rfl x_425 rfl rfl (Nat.le_of_ble_eq_true rfl) (fs2 := [.null, .null, .ref q1, .ref q2, .ref q3, .ref q4, .ref q5, .int 0, .int 0, .ref q6, .int 0, .int 0, .ref q7, .ref q8, .int 0, .int 0, .int 0, .int 0]) rfl dX2_init_101 ?_
  refine k_aload_n B 0 dX2_init_104 rfl ?_
  refine k_iconst B (v := 0) dX2_init_105 (by decide) ?_
  refine k_put B 16 k_2 ty_2 (by decide) rfl x_427 rfl rfl (Nat.le_of_ble_eq_true rfl) (fs2 := [.null, .null, .ref q1, .ref q2, .ref q3, .ref q4, .ref q5, .int 0, .int 0, .ref q6, .int 0, .int 0, .ref q7, .ref q8, .int 0, .int 0, .int 0, .int 0]) rfl dX2_init_106 ?_
  refine k_aload_n B 0 dX2_init_109 rfl ?_
  refine k_iconst B (v := 0) dX2_init_110 (by decide) ?_
  refine k_put B 17 k_2 ty_2 (by decide) rfl x_429 rfl rfl (Nat.le_of_ble_eq_true rfl) (fs2 := [.null, .null, .ref q1, .ref q2, .ref q3, .ref q4, .ref q5, .int 0, .int 0, .ref q6, .int 0, .int 0, .ref q7, .ref q8, .int 0, .int 0, .int 0, .int 0]) rfl dX2_init_111 ?_
  refine k_aload_n B 0 dX2_init_114 rfl ?_
  refine k_aload_n B 1 dX2_init_115 rfl ?_
  refine k_putF C 0 k_2 ty_2 (by decide) rfl rfl x_410 rfl rfl (Nat.le_of_ble_eq_true rfl) (fs2 := [.ref g1, .null, .ref q1, .ref q2, .ref q3, .ref q4, .ref q5, .int 0, .int 0, .ref q6, .int 0, .int 0, .ref q7, .ref q8, .int 0, .int 0, .int 0, .int 0]) rfl dX2_init_116 ?_
  refine k_aload_n B 0 dX2_init_119 rfl ?_
  refine k_aload_n B 2 dX2_init_120 rfl ?_
  refine k_putF C 1 k_2 ty_2 (by decide) rfl rfl x_411 rfl rfl (Nat.le_of_ble_eq_true rfl) (fs2 := [.ref g1, .ref g2, .ref q1, .ref q2, .ref q3, .ref q4, .ref q5, .int 0, .int 0, .ref q6, .int 0, .int 0, .ref q7, .ref q8, .int 0, .int 0, .int 0, .int 0]) rfl dX2_init_121 ?_
  exact k_ret C rfl rfl dX2_init_124 ⟨q1, q1_1, q1_2, q1_3, q1_4, q1_5, q1_6, q1_7, q2, q2_1, q2_2, q2_3, q2_4, q3, q4, q5, q6, q7, q8, rfl⟩
