def N_X12_init : Mn := (yX12_init, cX12_init, 1, { frames := 1, cells := 28, slots := 1714, locals := 20 })
theorem n_X12_init : N_X12_init.ok := ⟨by decide, by decide, by decide, x_84, x_1240, x_1239, rfl⟩
theorem pn_X12_init : (parseMethodDescriptor N_X12_init.1.desc).map (fun d => d.parameters.length) = some 0 := by decide +kernel
def P_X12_init (D : va_G) (cI cZ cJ : ClassId) (h0 : Nat) : va_W → Prop := fun ws => ∃ ad : Nat → Nat → Nat, ad 12 0 = h0 ∧ ws = wc (ad, cI, cZ, cJ, D, ULm) w0 z0
set_option maxRecDepth 100000 in
set_option maxHeartbeats 16000000 in
theorem c_X12_init (D : va_G) (cI cZ cJ : ClassId) (h0 : Nat) : CtN N_X12_init D [(cI, .int), (cZ, .boolean), (cJ, .long)] [.ref h0] (h0, .inr (12, [.int 0, .null, .int 0, .int 0, .int 0, .int 0, .int 0, .int 0, .int 0, .int 0, .int 0, .long 0, .int 0, .null, .int 0, .int 0, .int 0, .int 0, .int 0, .int 0, .int 0, .null, .null, .null, .int 0, .int 0, .int 0, .int 0, .null, .null, .null, .null, .null, .null, .null, .null, .null, .null, .int 0, .int 0, .int 0, .int 0, .null, .int 0, .int 0, .int 0, .int 0, .int 0, .int 0, .int 0, .null, .null, .int 0, .null, .null, .null, .null, .null, .null, .int 0, .int 0, .int 0, .int 0, .int 0, .int 0, .int 0, .null, .null, .null, .int 0, .null, .int 0])) (P_X12_init D cI cZ cJ h0) := by
  refine ctN_of n_X12_init (Nat.le_of_ble_eq_true rfl) (lv := [(0, .ref h0)]) rfl (fun K A C => ?_)
  have C : CC K D [(cI, .int), (cZ, .boolean), (cJ, .long)] A cX12_init 1 RX12 { frames := 1, cells := 28, slots := 1714, locals := 20 } := C
  have B := C.1
  show VC K D A 1 (QN K D [(cI, .int), (cZ, .boolean), (cJ, .long)] A (P_X12_init D cI cZ cJ h0) 28 1714) 0 0 0 [(0, .ref h0)] [] [(h0, .inr (12, [.int 0, .null, .int 0, .int 0, .int 0, .int 0, .int 0, .int 0, .int 0, .int 0, .int 0, .long 0, .int 0, .null, .int 0, .int 0, .int 0, .int 0, .int 0, .int 0, .int 0, .null, .null, .null, .int 0, .int 0, .int 0, .int 0, .null, .null, .null, .null, .null, .null, .null, .null, .null, .null, .int 0, .int 0, .int 0, .int 0, .null, .int 0, .int 0, .int 0, .int 0, .int 0, .int 0, .int 0, .null, .null, .int 0, .null, .null, .null, .null, .null, .null, .int 0, .int 0, .int 0, .int 0, .int 0, .int 0, .int 0, .null, .null, .null, .int 0, .null, .int 0]))]
  refine k_aload_n B 0 dX12_init_0 rfl ?_
  refine k_obj B x_1241 x_102 xk_103 ⟨by decide, by decide⟩ (by decide) dX12_init_1 ?_
  refine k_aload_n B 0 dX12_init_4 rfl ?_
  refine k_sipush B (v := 740) dX12_init_5 (by decide) ?_
  refine k_newa B .int (ty := .int) rfl xk_122 0 rfl (fun _ => rfl) (N := 740) (a0 := (740, .inl (fun _ => 0))) (fun _ => rfl) (by decide) (by decide) (by decide) (k2 := 1) (n2 := 740) rfl rfl ⟨by decide, by decide⟩ dX12_init_8 (fun q1 => ?_)
  refine k_putF C 1 k_12 ty_12 (by decide) rfl rfl x_1243 rfl rfl (Nat.le_of_ble_eq_true rfl) (fs2 := [.int 0, .ref q1, .int 0, .int 0, .int 0, .int 0, .int 0, .int 0, .int 0, .int 0, .int 0, .long 0, .int 0, .null, .int 0, .int 0, .int 0, .int 0, .int 0, .int 0, .int 0, .null, .null, .null, .int 0, .int 0, .int 0, .int 0, .null, .null, .null, .null, .null, .null, .null, .null, .null, .null, .int 0, .int 0, .int 0, .int 0, .null, .int 0, .int 0, .int 0, .int 0, .int 0, .int 0, .int 0, .null, .null, .int 0, .null, .null, .null, .null, .null, .null, .int 0, .int 0, .int 0, .int 0, .int 0, .int 0, .int 0, .null, .null, .null, .int 0, .null, .int 0]) rfl dX12_init_10 ?_
  refine k_aload_n B 0 dX12_init_13 rfl ?_
  refine k_sipush B (v := 224) dX12_init_14 (by decide) ?_
  refine k_newa B .int (ty := .int) rfl xk_122 0 rfl (fun _ => rfl) (N := 224) (a0 := (224, .inl (fun _ => 0))) (fun _ => rfl) (by decide) (by decide) (by decide) (k2 := 2) (n2 := 964) rfl rfl ⟨by decide, by decide⟩ dX12_init_17 (fun q2 => ?_)
  refine k_putF C 13 k_12 ty_12 (by decide) rfl rfl x_1255 rfl rfl (Nat.le_of_ble_eq_true rfl) (fs2 := [.int 0, .ref q1, .int 0, .int 0, .int 0, .int 0, .int 0, .int 0, .int 0, .int 0, .int 0, .long 0, .int 0, .ref q2, .int 0, .int 0, .int 0, .int 0, .int 0, .int 0, .int 0, .null, .null, .null, .int 0, .int 0, .int 0, .int 0, .null, .null, .null, .null, .null, .null, .null, .null, .null, .null, .int 0, .int 0, .int 0, .int 0, .null, .int 0, .int 0, .int 0, .int 0, .int 0, .int 0, .int 0, .null, .null, .int 0, .null, .null, .null, .null, .null, .null, .int 0, .int 0, .int 0, .int 0, .int 0, .int 0, .int 0, .null, .null, .null, .int 0, .null, .int 0]) rfl dX12_init_19 ?_
  refine k_aload_n B 0 dX12_init_22 rfl ?_
  refine k_iconst B (v := 1) dX12_init_23 (by decide) ?_
  refine k_put B 14 k_12 ty_12 (by decide) rfl x_1256 rfl rfl (Nat.le_of_ble_eq_true rfl) (fs2 := [.int 0, .ref q1, .int 0, .int 0, .int 0, .int 0, .int 0, .int 0, .int 0, .int 0, .int 0, .long 0, .int 0, .ref q2, .int 1, .int 0, .int 0, .int 0, .int 0, .int 0, .int 0, .null, .null, .null, .int 0, .int 0, .int 0, .int 0, .null, .null, .null, .null, .null, .null, .null, .null, .null, .null, .int 0, .int 0, .int 0, .int 0, .null, .int 0, .int 0, .int 0, .int 0, .int 0, .int 0, .int 0, .null, .null, .int 0, .null, .null, .null, .null, .null, .null, .int 0, .int 0, .int 0, .int 0, .int 0, .int 0, .int 0, .null, .null, .null, .int 0, .null, .int 0]) rfl dX12_init_24 ?_
  refine k_aload_n B 0 dX12_init_27 rfl ?_
  refine k_sipush B (v := 700) dX12_init_28 (by decide) ?_
  refine k_put B 15 k_12 ty_12 (by decide) rfl x_1257 rfl rfl (Nat.le_of_ble_eq_true rfl) (fs2 := [.int 0, .ref q1, .int 0, .int 0, .int 0, .int 0, .int 0, .int 0, .int 0, .int 0, .int 0, .long 0, .int 0, .ref q2, .int 1, .int 700, .int 0, .int 0, .int 0, .int 0, .int 0, .null, .null, .null, .int 0, .int 0, .int 0, .int 0, .null, .null, .null, .null, .null, .null, .null, .null, .null, .null, .int 0, .int 0, .int 0, .int 0, .null, .int 0, .int 0, .int 0, .int 0, .int 0, .int 0, .int 0, .null, .null, .int 0, .null, .null, .null, .null, .null, .null, .int 0, .int 0, .int 0, .int 0, .int 0, .int 0, .int 0, .null, .null, .null, .int 0, .null, .int 0]) rfl dX12_init_31 ?_
  refine k_aload_n B 0 dX12_init_34 rfl ?_
  refine k_bipush B (v := 40) dX12_init_35 (by decide) ?_
  refine k_put B 16 k_12 ty_12 (by decide) rfl x_1258 rfl rfl (Nat.le_of_ble_eq_true rfl) (fs2 := [.int 0, .ref q1, .int 0, .int 0, .int 0, .int 0, .int 0, .int 0, .int 0, .int 0, .int 0, .long 0, .int 0, .ref q2, .int 1, .int 700, .int 40, .int 0, .int 0, .int 0, .int 0, .null, .null, .null, .int 0, .int 0, .int 0, .int 0, .null, .null, .null, .null, .null, .null, .null, .null, .null, .null, .int 0, .int 0, .int 0, .int 0, .null, .int 0, .int 0, .int 0, .int 0, .int 0, .int 0, .int 0, .null, .null, .int 0, .null, .null, .null, .null, .null, .null, .int 0, .int 0, .int 0, .int 0, .int 0, .int 0, .int 0, .null, .null, .null, .int 0, .null, .int 0]) rfl dX12_init_37 ?_
  refine k_aload_n B 0 dX12_init_40 rfl ?_
  refine k_bipush B (v := 40) dX12_init_41 (by decide) ?_
  refine k_newa B .int (ty := .int) rfl xk_122 0 rfl (fun _ => rfl) (N := 40) (a0 := (40, .inl (fun _ => 0))) (fun _ => rfl) (by decide) (by decide) (by decide) (k2 := 3) (n2 := 1004) rfl rfl ⟨by decide, by decide⟩ dX12_init_43 (fun q3 => ?_)
  refine k_putF C 21 k_12 ty_12 (by decide) rfl rfl x_1263 rfl rfl (Nat.le_of_ble_eq_true rfl) (fs2 := [.int 0, .ref q1, .int 0, .int 0, .int 0, .int 0, .int 0, .int 0, .int 0, .int 0, .int 0, .long 0, .int 0, .ref q2, .int 1, .int 700, .int 40, .int 0, .int 0, .int 0, .int 0, .ref q3, .null, .null, .int 0, .int 0, .int 0, .int 0, .null, .null, .null, .null, .null, .null, .null, .null, .null, .null, .int 0, .int 0, .int 0, .int 0, .null, .int 0, .int 0, .int 0, .int 0, .int 0, .int 0, .int 0, .null, .null, .int 0, .null, .null, .null, .null, .null, .null, .int 0, .int 0, .int 0, .int 0, .int 0, .int 0, .int 0, .null, .null, .null, .int 0, .null, .int 0]) rfl dX12_init_45 ?_
  refine k_aload_n B 0 dX12_init_48 rfl ?_
  refine k_bipush B (v := 40) dX12_init_49 (by decide) ?_
  refine k_newa B .int (ty := .int) rfl xk_122 0 rfl (fun _ => rfl) (N := 40) (a0 := (40, .inl (fun _ => 0))) (fun _ => rfl) (by decide) (by decide) (by decide) (k2 := 4) (n2 := 1044) rfl rfl ⟨by decide, by decide⟩ dX12_init_51 (fun q4 => ?_)
  refine k_putF C 22 k_12 ty_12 (by decide) rfl rfl x_1264 rfl rfl (Nat.le_of_ble_eq_true rfl) (fs2 := [.int 0, .ref q1, .int 0, .int 0, .int 0, .int 0, .int 0, .int 0, .int 0, .int 0, .int 0, .long 0, .int 0, .ref q2, .int 1, .int 700, .int 40, .int 0, .int 0, .int 0, .int 0, .ref q3, .ref q4, .null, .int 0, .int 0, .int 0, .int 0, .null, .null, .null, .null, .null, .null, .null, .null, .null, .null, .int 0, .int 0, .int 0, .int 0, .null, .int 0, .int 0, .int 0, .int 0, .int 0, .int 0, .int 0, .null, .null, .int 0, .null, .null, .null, .null, .null, .null, .int 0, .int 0, .int 0, .int 0, .int 0, .int 0, .int 0, .null, .null, .null, .int 0, .null, .int 0]) rfl dX12_init_53 ?_
  refine k_aload_n B 0 dX12_init_56 rfl ?_
  refine k_bipush B (v := 40) dX12_init_57 (by decide) ?_
  refine k_newa B .int (ty := .int) rfl xk_122 0 rfl (fun _ => rfl) (N := 40) (a0 := (40, .inl (fun _ => 0))) (fun _ => rfl) (by decide) (by decide) (by decide) (k2 := 5) (n2 := 1084) rfl rfl ⟨by decide, by decide⟩ dX12_init_59 (fun q5 => ?_)
  refine k_putF C 23 k_12 ty_12 (by decide) rfl rfl x_1265 rfl rfl (Nat.le_of_ble_eq_true rfl) (fs2 := [.int 0, .ref q1, .int 0, .int 0, .int 0, .int 0, .int 0, .int 0, .int 0, .int 0, .int 0, .long 0, .int 0, .ref q2, .int 1, .int 700, .int 40, .int 0, .int 0, .int 0, .int 0, .ref q3, .ref q4, .ref q5, .int 0, .int 0, .int 0, .int 0, .null, .null, .null, .null, .null, .null, .null, .null, .null, .null, .int 0, .int 0, .int 0, .int 0, .null, .int 0, .int 0, .int 0, .int 0, .int 0, .int 0, .int 0, .null, .null, .int 0, .null, .null, .null, .null, .null, .null, .int 0, .int 0, .int 0, .int 0, .int 0, .int 0, .int 0, .null, .null, .null, .int 0, .null, .int 0]) rfl dX12_init_61 ?_
  refine k_aload_n B 0 dX12_init_64 rfl ?_
  refine k_bipush B (v := 17) dX12_init_65 (by decide) ?_
  refine k_newa B .int (ty := .int) rfl xk_122 0 rfl (fun _ => rfl) (N := 17) (a0 := (17, .inl (fun _ => 0))) (fun _ => rfl) (by decide) (by decide) (by decide) (k2 := 6) (n2 := 1101) rfl rfl ⟨by decide, by decide⟩ dX12_init_67 (fun q6 => ?_)
  refine k_putF C 28 k_12 ty_12 (by decide) rfl rfl x_1270 rfl rfl (Nat.le_of_ble_eq_true rfl) (fs2 := [.int 0, .ref q1, .int 0, .int 0, .int 0, .int 0, .int 0, .int 0, .int 0, .int 0, .int 0, .long 0, .int 0, .ref q2, .int 1, .int 700, .int 40, .int 0, .int 0, .int 0, .int 0, .ref q3, .ref q4, .ref q5, .int 0, .int 0, .int 0, .int 0, .ref q6, .null, .null, .null, .null, .null, .null, .null, .null, .null, .int 0, .int 0, .int 0, .int 0, .null, .int 0, .int 0, .int 0, .int 0, .int 0, .int 0, .int 0, .null, .null, .int 0, .null, .null, .null, .null, .null, .null, .int 0, .int 0, .int 0, .int 0, .int 0, .int 0, .int 0, .null, .null, .null, .int 0, .null, .int 0]) rfl dX12_init_69 ?_
  refine k_aload_n B 0 dX12_init_72 rfl ?_
  refine k_bipush B (v := 17) dX12_init_73 (by decide) ?_
  refine k_newa B .int (ty := .int) rfl xk_122 0 rfl (fun _ => rfl) (N := 17) (a0 := (17, .inl (fun _ => 0))) (fun _ => rfl) (by decide) (by decide) (by decide) (k2 := 7) (n2 := 1118) rfl rfl ⟨by decide, by decide⟩ dX12_init_75 (fun q7 => ?_)
  refine k_putF C 29 k_12 ty_12 (by decide) rfl rfl x_1271 rfl rfl (Nat.le_of_ble_eq_true rfl) (fs2 := [.int 0, .ref q1, .int 0, .int 0, .int 0, .int 0, .int 0, .int 0, .int 0, .int 0, .int 0, .long 0, .int 0, .ref q2, .int 1, .int 700, .int 40, .int 0, .int 0, .int 0, .int 0, .ref q3, .ref q4, .ref q5, .int 0, .int 0, .int 0, .int 0, .ref q6, .ref q7, .null, .null, .null, .null, .null, .null, .null, .null, .int 0, .int 0, .int 0, .int 0, .null, .int 0, .int 0, .int 0, .int 0, .int 0, .int 0, .int 0, .null, .null, .int 0, .null, .null, .null, .null, .null, .null, .int 0, .int 0, .int 0, .int 0, .int 0, .int 0, .int 0, .null, .null, .null, .int 0, .null, .int 0]) rfl dX12_init_77 ?_
  refine k_aload_n B 0 dX12_init_80 rfl ?_
  refine k_bipush B (v := 17) dX12_init_81 (by decide) ?_
  refine k_newa B .int (ty := .int) rfl xk_122 0 rfl (fun _ => rfl) (N := 17) (a0 := (17, .inl (fun _ => 0))) (fun _ => rfl) (by decide) (by decide) (by decide) (k2 := 8) (n2 := 1135) rfl rfl ⟨by decide, by decide⟩ dX12_init_83 (fun q8 => ?_)
  refine k_putF C 30 k_12 ty_12 (by decide) rfl rfl x_1272 rfl rfl (Nat.le_of_ble_eq_true rfl) (fs2 := [.int 0, .ref q1, .int 0, .int 0, .int 0, .int 0, .int 0, .int 0, .int 0, .int 0, .int 0, .long 0, .int 0, .ref q2, .int 1, .int 700, .int 40, .int 0, .int 0, .int 0, .int 0, .ref q3, .ref q4, .ref q5, .int 0, .int 0, .int 0, .int 0, .ref q6, .ref q7, .ref q8, .null, .null, .null, .null, .null, .null, .null, .int 0, .int 0, .int 0, .int 0, .null, .int 0, .int 0, .int 0, .int 0, .int 0, .int 0, .int 0, .null, .null, .int 0, .null, .null, .null, .null, .null, .null, .int 0, .int 0, .int 0, .int 0, .int 0, .int 0, .int 0, .null, .null, .null, .int 0, .null, .int 0]) rfl dX12_init_85 ?_
  refine k_aload_n B 0 dX12_init_88 rfl ?_
  refine k_bipush B (v := 17) dX12_init_89 (by decide) ?_
  refine k_newa B .int (ty := .int) rfl xk_122 0 rfl (fun _ => rfl) (N := 17) (a0 := (17, .inl (fun _ => 0))) (fun _ => rfl) (by decide) (by decide) (by decide) (k2 := 9) (n2 := 1152) rfl rfl ⟨by decide, by decide⟩ dX12_init_91 (fun q9 => ?_)
  refine k_putF C 31 k_12 ty_12 (by decide) rfl rfl x_1273 rfl rfl (Nat.le_of_ble_eq_true rfl) (fs2 := [.int 0, .ref q1, .int 0, .int 0, .int 0, .int 0, .int 0, .int 0, .int 0, .int 0, .int 0, .long 0, .int 0, .ref q2, .int 1, .int 700, .int 40, .int 0, .int 0, .int 0, .int 0, .ref q3, .ref q4, .ref q5, .int 0, .int 0, .int 0, .int 0, .ref q6, .ref q7, .ref q8, .ref q9, .null, .null, .null, .null, .null, .null, .int 0, .int 0, .int 0, .int 0, .null, .int 0, .int 0, .int 0, .int 0, .int 0, .int 0, .int 0, .null, .null, .int 0, .null, .null, .null, .null, .null, .null, .int 0, .int 0, .int 0, .int 0, .int 0, .int 0, .int 0, .null, .null, .null, .int 0, .null, .int 0]) rfl dX12_init_93 ?_
  refine k_aload_n B 0 dX12_init_96 rfl ?_
  refine k_bipush B (v := 17) dX12_init_97 (by decide) ?_
  refine k_newa B .int (ty := .int) rfl xk_122 0 rfl (fun _ => rfl) (N := 17) (a0 := (17, .inl (fun _ => 0))) (fun _ => rfl) (by decide) (by decide) (by decide) (k2 := 10) (n2 := 1169) rfl rfl ⟨by decide, by decide⟩ dX12_init_99 (fun q10 => ?_)
  refine k_putF C 32 k_12 ty_12 (by decide) rfl rfl x_1274 rfl rfl (Nat.le_of_ble_eq_true rfl) (fs2 := [.int 0, .ref q1, .int 0, .int 0, .int 0, .int 0, .int 0, .int 0, .int 0, .int 0, .int 0, .long 0, .int 0, .ref q2, .int 1, .int 700, .int 40, .int 0, .int 0, .int 0, .int 0, .ref q3, .ref q4, .ref q5, .int 0, .int 0, .int 0, .int 0, .ref q6, .ref q7, .ref q8, .ref q9, .ref q10, .null, .null, .null, .null, .null, .int 0, .int 0, .int 0, .int 0, .null, .int 0, .int 0, .int 0, .int 0, .int 0, .int 0, .int 0, .null, .null, .int 0, .null, .null, .null, .null, .null, .null, .int 0, .int 0, .int 0, .int 0, .int 0, .int 0, .int 0, .null, .null, .null, .int 0, .null, .int 0]) rfl dX12_init_101 ?_
  refine k_aload_n B 0 dX12_init_104 rfl ?_
  refine k_bipush B (v := 17) dX12_init_105 (by decide) ?_
  refine k_newa B .int (ty := .int) rfl xk_122 0 rfl (fun _ => rfl) (N := 17) (a0 := (17, .inl (fun _ => 0))) (fun _ => rfl) (by decide) (by decide) (by decide) (k2 := 11) (n2 := 1186) rfl rfl ⟨by decide, by decide⟩ dX12_init_107 (fun q11 => ?_)
  refine k_putF C 33 k_12 ty_12 (by decide) rfl rfl x_1275 rfl rfl (Nat.le_of_ble_eq_true rfl) (fs2 := [.int 0, .ref q1, .int 0, .int 0, .int 0, .int 0, .int 0, .int 0, .int 0, .int 0, .int 0, .long 0, .int 0, .ref q2, .int 1, .int 700, .int 40, .int 0, .int 0, .int 0, .int 0, .ref q3, .ref q4, .ref q5, .int 0, .int 0, .int 0, .int 0, .ref q6, .ref q7, .ref q8, .ref q9, .ref q10, .ref q11, .null, .null, .null, .null, .int 0, .int 0, .int 0, .int 0, .null, .int 0, .int 0, .int 0, .int 0, .int 0, .int 0, .int 0, .null, .null, .int 0, .null, .null, .null, .null, .null, .null, .int 0, .int 0, .int 0, .int 0, .int 0, .int 0, .int 0, .null, .null, .null, .int 0, .null, .int 0]) rfl dX12_init_109 ?_
  refine k_aload_n B 0 dX12_init_112 rfl ?_
  refine k_bipush B (v := 17) dX12_init_113 (by decide) ?_
  refine k_newa B .int (ty := .int) rfl xk_122 0 rfl (fun _ => rfl) (N := 17) (a0 := (17, .inl (fun _ => 0))) (fun _ => rfl) (by decide) (by decide) (by decide) (k2 := 12) (n2 := 1203) rfl rfl ⟨by decide, by decide⟩ dX12_init_115 (fun q12 => ?_)
  refine k_putF C 34 k_12 ty_12 (by decide) rfl rfl x_1276 rfl rfl (Nat.le_of_ble_eq_true rfl) (fs2 := [.int 0, .ref q1, .int 0, .int 0, .int 0, .int 0, .int 0, .int 0, .int 0, .int 0, .int 0, .long 0, .int 0, .ref q2, .int 1, .int 700, .int 40, .int 0, .int 0, .int 0, .int 0, .ref q3, .ref q4, .ref q5, .int 0, .int 0, .int 0, .int 0, .ref q6, .ref q7, .ref q8, .ref q9, .ref q10, .ref q11, .ref q12, .null, .null, .null, .int 0, .int 0, .int 0, .int 0, .null, .int 0, .int 0, .int 0, .int 0, .int 0, .int 0, .int 0, .null, .null, .int 0, .null, .null, .null, .null, .null, .null, .int 0, .int 0, .int 0, .int 0, .int 0, .int 0, .int 0, .null, .null, .null, .int 0, .null, .int 0]) rfl dX12_init_117 ?_
  refine k_aload_n B 0 dX12_init_120 rfl ?_
  refine k_bipush B (v := 17) dX12_init_121 (by decide) ?_
  refine k_newa B .int (ty := .int) rfl xk_122 0 rfl (fun _ => rfl) (N := 17) (a0 := (17, .inl (fun _ => 0))) (fun _ => rfl) (by decide) (by decide) (by decide) (k2 := 13) (n2 := 1220) rfl rfl ⟨by decide, by decide⟩ dX12_init_123 (fun q13 => ?_)
  refine k_putF C 35 k_12 ty_12 (by decide) rfl rfl x_1277 rfl rfl (Nat.le_of_ble_eq_true rfl) (fs2 := [.int 0, .ref q1, .int 0, .int 0, .int 0, .int 0, .int 0, .int 0, .int 0, .int 0, .int 0, .long 0, .int 0, .ref q2, .int 1, .int 700, .int 40, .int 0, .int 0, .int 0, .int 0, .ref q3, .ref q4, .ref q5, .int 0, .int 0, .int 0, .int 0, .ref q6, .ref q7, .ref q8, .ref q9, .ref q10, .ref q11, .ref q12, .ref q13, .null, .null, .int 0, .int 0, .int 0, .int 0, .null, .int 0, .int 0, .int 0, .int 0, .int 0, .int 0, .int 0, .null, .null, .int 0, .null, .null, .null, .null, .null, .null, .int 0, .int 0, .int 0, .int 0, .int 0, .int 0, .int 0, .null, .null, .null, .int 0, .null, .int 0]) rfl dX12_init_125 ?_
  refine k_aload_n B 0 dX12_init_128 rfl ?_
  refine k_bipush B (v := 17) dX12_init_129 (by decide) ?_
  refine k_newa B .int (ty := .int) rfl xk_122 0 rfl (fun _ => rfl) (N := 17) (a0 := (17, .inl (fun _ => 0))) (fun _ => rfl) (by decide) (by decide) (by decide) (k2 := 14) (n2 := 1237) rfl rfl ⟨by decide, by decide⟩ dX12_init_131 (fun q14 => ?_)
  refine k_putF C 36 k_12 ty_12 (by decide) rfl rfl x_1278 rfl rfl (Nat.le_of_ble_eq_true rfl) (fs2 := [.int 0, .ref q1, .int 0, .int 0, .int 0, .int 0, .int 0, .int 0, .int 0, .int 0, .int 0, .long 0, .int 0, .ref q2, .int 1, .int 700, .int 40, .int 0, .int 0, .int 0, .int 0, .ref q3, .ref q4, .ref q5, .int 0, .int 0, .int 0, .int 0, .ref q6, .ref q7, .ref q8, .ref q9, .ref q10, .ref q11, .ref q12, .ref q13, .ref q14, .null, .int 0, .int 0, .int 0, .int 0, .null, .int 0, .int 0, .int 0, .int 0, .int 0, .int 0, .int 0, .null, .null, .int 0, .null, .null, .null, .null, .null, .null, .int 0, .int 0, .int 0, .int 0, .int 0, .int 0, .int 0, .null, .null, .null, .int 0, .null, .int 0]) rfl dX12_init_133 ?_
  refine k_aload_n B 0 dX12_init_136 rfl ?_
  refine k_bipush B (v := 18) dX12_init_137 (by decide) ?_
  refine k_newa B .int (ty := .int) rfl xk_122 0 rfl (fun _ => rfl) (N := 18) (a0 := (18, .inl (fun _ => 0))) (fun _ => rfl) (by decide) (by decide) (by decide) (k2 := 15) (n2 := 1255) rfl rfl ⟨by decide, by decide⟩ dX12_init_139 (fun q15 => ?_)
  refine k_putF C 37 k_12 ty_12 (by decide) rfl rfl x_1279 rfl rfl (Nat.le_of_ble_eq_true rfl) (fs2 := [.int 0, .ref q1, .int 0, .int 0, .int 0, .int 0, .int 0, .int 0, .int 0, .int 0, .int 0, .long 0, .int 0, .ref q2, .int 1, .int 700, .int 40, .int 0, .int 0, .int 0, .int 0, .ref q3, .ref q4, .ref q5, .int 0, .int 0, .int 0, .int 0, .ref q6, .ref q7, .ref q8, .ref q9, .ref q10, .ref q11, .ref q12, .ref q13, .ref q14, .ref q15, .int 0, .int 0, .int 0, .int 0, .null, .int 0, .int 0, .int 0, .int 0, .int 0, .int 0, .int 0, .null, .null, .int 0, .null, .null, .null, .null, .null, .null, .int 0, .int 0, .int 0, .int 0, .int 0, .int 0, .int 0, .null, .null, .null, .int 0, .null, .int 0]) rfl dX12_init_141 ?_
  refine k_aload_n B 0 dX12_init_144 rfl ?_
  refine k_bipush B (v := 16) dX12_init_145 (by decide) ?_
  refine k_newa B .int (ty := .int) rfl xk_122 0 rfl (fun _ => rfl) (N := 16) (a0 := (16, .inl (fun _ => 0))) (fun _ => rfl) (by decide) (by decide) (by decide) (k2 := 16) (n2 := 1271) rfl rfl ⟨by decide, by decide⟩ dX12_init_147 (fun q16 => ?_)
  refine k_dup B dX12_init_149 rfl ?_
  refine k_iconst B (v := 0) dX12_init_150 (by decide) ?_
  refine k_iconst B (v := 0) dX12_init_151 (by decide) ?_
  refine k_iast B 0 rfl (j := 0) (by decide) (vp_x (by decide) (by decide) (by decide)) dX12_init_152 ?_
  refine k_dup B dX12_init_153 rfl ?_
  refine k_iconst B (v := 1) dX12_init_154 (by decide) ?_
  refine k_iconst B (v := 1) dX12_init_155 (by decide) ?_
  refine k_iast B 0 rfl (j := 1) (by decide) (vp_x (by decide) (by decide) (by decide)) dX12_init_156 ?_
  refine k_dup B dX12_init_157 rfl ?_
  refine k_iconst B (v := 2) dX12_init_158 (by decide) ?_
  refine k_iconst B (v := 2) dX12_init_159 (by decide) ?_
  refine k_iast B 0 rfl (j := 2) (by decide) (vp_x (by decide) (by decide) (by decide)) dX12_init_160 ?_
  refine k_dup B dX12_init_161 rfl ?_
  refine k_iconst B (v := 3) dX12_init_162 (by decide) ?_
  refine k_iconst B (v := 3) dX12_init_163 (by decide) ?_
  refine k_iast B 0 rfl (j := 3) (by decide) (vp_x (by decide) (by decide) (by decide)) dX12_init_164 ?_
  refine k_dup B dX12_init_165 rfl ?_
  refine k_iconst B (v := 4) dX12_init_166 (by decide) ?_
  refine k_iconst B (v := 4) dX12_init_167 (by decide) ?_
  refine k_iast B 0 rfl (j := 4) (by decide) (vp_x (by decide) (by decide) (by decide)) dX12_init_168 ?_
  refine k_dup B dX12_init_169 rfl ?_
  refine k_iconst B (v := 5) dX12_init_170 (by decide) ?_
  refine k_iconst B (v := 5) dX12_init_171 (by decide) ?_
  refine k_iast B 0 rfl (j := 5) (by decide) (vp_x (by decide) (by decide) (by decide)) dX12_init_172 ?_
  refine k_dup B dX12_init_173 rfl ?_
  refine k_bipush B (v := 6) dX12_init_174 (by decide) ?_
  refine k_bipush B (v := 6) dX12_init_176 (by decide) ?_
  refine k_iast B 0 rfl (j := 6) (by decide) (vp_x (by decide) (by decide) (by decide)) dX12_init_178 ?_
  refine k_dup B dX12_init_179 rfl ?_
  refine k_bipush B (v := 7) dX12_init_180 (by decide) ?_
  refine k_bipush B (v := 7) dX12_init_182 (by decide) ?_
  refine k_iast B 0 rfl (j := 7) (by decide) (vp_x (by decide) (by decide) (by decide)) dX12_init_184 ?_
  refine k_dup B dX12_init_185 rfl ?_
  refine k_bipush B (v := 8) dX12_init_186 (by decide) ?_
  refine k_bipush B (v := 8) dX12_init_188 (by decide) ?_
  refine k_iast B 0 rfl (j := 8) (by decide) (vp_x (by decide) (by decide) (by decide)) dX12_init_190 ?_
  refine k_dup B dX12_init_191 rfl ?_
  refine k_bipush B (v := 9) dX12_init_192 (by decide) ?_
  refine k_bipush B (v := 9) dX12_init_194 (by decide) ?_
  refine k_iast B 0 rfl (j := 9) (by decide) (vp_x (by decide) (by decide) (by decide)) dX12_init_196 ?_
  refine k_dup B dX12_init_197 rfl ?_
  refine k_bipush B (v := 10) dX12_init_198 (by decide) ?_
  refine k_bipush B (v := 10) dX12_init_200 (by decide) ?_
  refine k_iast B 0 rfl (j := 10) (by decide) (vp_x (by decide) (by decide) (by decide)) dX12_init_202 ?_
  refine k_dup B dX12_init_203 rfl ?_
  refine k_bipush B (v := 11) dX12_init_204 (by decide) ?_
  refine k_bipush B (v := 11) dX12_init_206 (by decide) ?_
  refine k_iast B 0 rfl (j := 11) (by decide) (vp_x (by decide) (by decide) (by decide)) dX12_init_208 ?_
  refine k_dup B dX12_init_209 rfl ?_
  refine k_bipush B (v := 12) dX12_init_210 (by decide) ?_
  refine k_bipush B (v := 12) dX12_init_212 (by decide) ?_
  refine k_iast B 0 rfl (j := 12) (by decide) (vp_x (by decide) (by decide) (by decide)) dX12_init_214 ?_
  refine k_dup B dX12_init_215 rfl ?_
  refine k_bipush B (v := 13) dX12_init_216 (by decide) ?_
  refine k_bipush B (v := 13) dX12_init_218 (by decide) ?_
  refine k_iast B 0 rfl (j := 13) (by decide) (vp_x (by decide) (by decide) (by decide)) dX12_init_220 ?_
  refine k_dup B dX12_init_221 rfl ?_
  refine k_bipush B (v := 14) dX12_init_222 (by decide) ?_
  refine k_bipush B (v := 14) dX12_init_224 (by decide) ?_
  refine k_iast B 0 rfl (j := 14) (by decide) (vp_x (by decide) (by decide) (by decide)) dX12_init_226 ?_
  refine k_dup B dX12_init_227 rfl ?_
  refine k_bipush B (v := 15) dX12_init_228 (by decide) ?_
  refine k_bipush B (v := 15) dX12_init_230 (by decide) ?_
  refine k_iast B 0 rfl (j := 15) (by decide) (vp_x (by decide) (by decide) (by decide)) dX12_init_232 ?_
  refine k_putF C 42 k_12 ty_12 (by decide) rfl rfl x_1284 rfl rfl (Nat.le_of_ble_eq_true rfl) (fs2 := [.int 0, .ref q1, .int 0, .int 0, .int 0, .int 0, .int 0, .int 0, .int 0, .int 0, .int 0, .long 0, .int 0, .ref q2, .int 1, .int 700, .int 40, .int 0, .int 0, .int 0, .int 0, .ref q3, .ref q4, .ref q5, .int 0, .int 0, .int 0, .int 0, .ref q6, .ref q7, .ref q8, .ref q9, .ref q10, .ref q11, .ref q12, .ref q13, .ref q14, .ref q15, .int 0, .int 0, .int 0, .int 0, .ref q16, .int 0, .int 0, .int 0, .int 0, .int 0, .int 0, .int 0, .null, .null, .int 0, .null, .null, .null, .null, .null, .null, .int 0, .int 0, .int 0, .int 0, .int 0, .int 0, .int 0, .null, .null, .null, .int 0, .null, .int 0]) rfl dX12_init_233 ?_
  refine k_aload_n B 0 dX12_init_236 rfl ?_
  refine k_bipush B (v := 16) dX12_init_237 (by decide) ?_
  refine k_newa B .int (ty := .int) rfl xk_122 0 rfl (fun _ => rfl) (N := 16) (a0 := (16, .inl (fun _ => 0))) (fun _ => rfl) (by decide) (by decide) (by decide) (k2 := 17) (n2 := 1287) rfl rfl ⟨by decide, by decide⟩ dX12_init_239 (fun q17 => ?_)
  refine k_putF C 50 k_12 ty_12 (by decide) rfl rfl x_1292 rfl rfl (Nat.le_of_ble_eq_true rfl) (fs2 := [.int 0, .ref q1, .int 0, .int 0, .int 0, .int 0, .int 0, .int 0, .int 0, .int 0, .int 0, .long 0, .int 0, .ref q2, .int 1, .int 700, .int 40, .int 0, .int 0, .int 0, .int 0, .ref q3, .ref q4, .ref q5, .int 0, .int 0, .int 0, .int 0, .ref q6, .ref q7, .ref q8, .ref q9, .ref q10, .ref q11, .ref q12, .ref q13, .ref q14, .ref q15, .int 0, .int 0, .int 0, .int 0, .ref q16, .int 0, .int 0, .int 0, .int 0, .int 0, .int 0, .int 0, .ref q17, .null, .int 0, .null, .null, .null, .null, .null, .null, .int 0, .int 0, .int 0, .int 0, .int 0, .int 0, .int 0, .null, .null, .null, .int 0, .null, .int 0]) rfl dX12_init_241 ?_
  refine k_aload_n B 0 dX12_init_244 rfl ?_
  refine k_bipush B (v := 6) dX12_init_245 (by decide) ?_
  refine k_newa B .int (ty := .int) rfl xk_122 0 rfl (fun _ => rfl) (N := 6) (a0 := (6, .inl (fun _ => 0))) (fun _ => rfl) (by decide) (by decide) (by decide) (k2 := 18) (n2 := 1293) rfl rfl ⟨by decide, by decide⟩ dX12_init_247 (fun q18 => ?_)
  refine k_putF C 51 k_12 ty_12 (by decide) rfl rfl x_1293 rfl rfl (Nat.le_of_ble_eq_true rfl) (fs2 := [.int 0, .ref q1, .int 0, .int 0, .int 0, .int 0, .int 0, .int 0, .int 0, .int 0, .int 0, .long 0, .int 0, .ref q2, .int 1, .int 700, .int 40, .int 0, .int 0, .int 0, .int 0, .ref q3, .ref q4, .ref q5, .int 0, .int 0, .int 0, .int 0, .ref q6, .ref q7, .ref q8, .ref q9, .ref q10, .ref q11, .ref q12, .ref q13, .ref q14, .ref q15, .int 0, .int 0, .int 0, .int 0, .ref q16, .int 0, .int 0, .int 0, .int 0, .int 0, .int 0, .int 0, .ref q17, .ref q18, .int 0, .null, .null, .null, .null, .null, .null, .int 0, .int 0, .int 0, .int 0, .int 0, .int 0, .int 0, .null, .null, .null, .int 0, .null, .int 0]) rfl dX12_init_249 ?_
  refine k_aload_n B 0 dX12_init_252 rfl ?_
  refine k_bipush B (v := 11) dX12_init_253 (by decide) ?_
  refine k_newa B .boolean (ty := .boolean) rfl xk_495 1 rfl (fun _ => rfl) (N := 11) (a0 := (11, .inl (fun _ => 0))) (fun _ => rfl) (by decide) (by decide) (by decide) (k2 := 19) (n2 := 1304) rfl rfl ⟨by decide, by decide⟩ dX12_init_255 (fun q19 => ?_)
  refine k_putF C 53 k_12 ty_12 (by decide) rfl rfl x_1295 rfl rfl (Nat.le_of_ble_eq_true rfl) (fs2 := [.int 0, .ref q1, .int 0, .int 0, .int 0, .int 0, .int 0, .int 0, .int 0, .int 0, .int 0, .long 0, .int 0, .ref q2, .int 1, .int 700, .int 40, .int 0, .int 0, .int 0, .int 0, .ref q3, .ref q4, .ref q5, .int 0, .int 0, .int 0, .int 0, .ref q6, .ref q7, .ref q8, .ref q9, .ref q10, .ref q11, .ref q12, .ref q13, .ref q14, .ref q15, .int 0, .int 0, .int 0, .int 0, .ref q16, .int 0, .int 0, .int 0, .int 0, .int 0, .int 0, .int 0, .ref q17, .ref q18, .int 0, .ref q19, .null, .null, .null, .null, .null, .int 0, .int 0, .int 0, .int 0, .int 0, .int 0, .int 0, .null, .null, .null, .int 0, .null, .int 0]) rfl dX12_init_257 ?_
  refine k_aload_n B 0 dX12_init_260 rfl ?_
  refine k_bipush B (v := 8) dX12_init_261 (by decide) ?_
  refine k_newa B .int (ty := .int) rfl xk_122 0 rfl (fun _ => rfl) (N := 8) (a0 := (8, .inl (fun _ => 0))) (fun _ => rfl) (by decide) (by decide) (by decide) (k2 := 20) (n2 := 1312) rfl rfl ⟨by decide, by decide⟩ dX12_init_263 (fun q20 => ?_)
  refine k_putF C 54 k_12 ty_12 (by decide) rfl rfl x_1296 rfl rfl (Nat.le_of_ble_eq_true rfl) (fs2 := [.int 0, .ref q1, .int 0, .int 0, .int 0, .int 0, .int 0, .int 0, .int 0, .int 0, .int 0, .long 0, .int 0, .ref q2, .int 1, .int 700, .int 40, .int 0, .int 0, .int 0, .int 0, .ref q3, .ref q4, .ref q5, .int 0, .int 0, .int 0, .int 0, .ref q6, .ref q7, .ref q8, .ref q9, .ref q10, .ref q11, .ref q12, .ref q13, .ref q14, .ref q15, .int 0, .int 0, .int 0, .int 0, .ref q16, .int 0, .int 0, .int 0, .int 0, .int 0, .int 0, .int 0, .ref q17, .ref q18, .int 0, .ref q19, .ref q20, .null, .null, .null, .null, .int 0, .int 0, .int 0, .int 0, .int 0, .int 0, .int 0, .null, .null, .null, .int 0, .null, .int 0]) rfl dX12_init_265 ?_
  refine k_aload_n B 0 dX12_init_268 rfl ?_
  refine k_bipush B (v := 8) dX12_init_269 (by decide) ?_
  refine k_newa B .int (ty := .int) rfl xk_122 0 rfl (fun _ => rfl) (N := 8) (a0 := (8, .inl (fun _ => 0))) (fun _ => rfl) (by decide) (by decide) (by decide) (k2 := 21) (n2 := 1320) rfl rfl ⟨by decide, by decide⟩ dX12_init_271 (fun q21 => ?_)
  refine k_putF C 55 k_12 ty_12 (by decide) rfl rfl x_1297 rfl rfl (Nat.le_of_ble_eq_true rfl) (fs2 := [.int 0, .ref q1, .int 0, .int 0, .int 0, .int 0, .int 0, .int 0, .int 0, .int 0, .int 0, .long 0, .int 0, .ref q2, .int 1, .int 700, .int 40, .int 0, .int 0, .int 0, .int 0, .ref q3, .ref q4, .ref q5, .int 0, .int 0, .int 0, .int 0, .ref q6, .ref q7, .ref q8, .ref q9, .ref q10, .ref q11, .ref q12, .ref q13, .ref q14, .ref q15, .int 0, .int 0, .int 0, .int 0, .ref q16, .int 0, .int 0, .int 0, .int 0, .int 0, .int 0, .int 0, .ref q17, .ref q18, .int 0, .ref q19, .ref q20, .ref q21, .null, .null, .null, .int 0, .int 0, .int 0, .int 0, .int 0, .int 0, .int 0, .null, .null, .null, .int 0, .null, .int 0]) rfl dX12_init_273 ?_
  refine k_aload_n B 0 dX12_init_276 rfl ?_
  refine k_bipush B (v := 8) dX12_init_277 (by decide) ?_
  refine k_newa B .int (ty := .int) rfl xk_122 0 rfl (fun _ => rfl) (N := 8) (a0 := (8, .inl (fun _ => 0))) (fun _ => rfl) (by decide) (by decide) (by decide) (k2 := 22) (n2 := 1328) rfl rfl ⟨by decide, by decide⟩ dX12_init_279 (fun q22 => ?_)
  refine k_putF C 56 k_12 ty_12 (by decide) rfl rfl x_1298 rfl rfl (Nat.le_of_ble_eq_true rfl) (fs2 := [.int 0, .ref q1, .int 0, .int 0, .int 0, .int 0, .int 0, .int 0, .int 0, .int 0, .int 0, .long 0, .int 0, .ref q2, .int 1, .int 700, .int 40, .int 0, .int 0, .int 0, .int 0, .ref q3, .ref q4, .ref q5, .int 0, .int 0, .int 0, .int 0, .ref q6, .ref q7, .ref q8, .ref q9, .ref q10, .ref q11, .ref q12, .ref q13, .ref q14, .ref q15, .int 0, .int 0, .int 0, .int 0, .ref q16, .int 0, .int 0, .int 0, .int 0, .int 0, .int 0, .int 0, .ref q17, .ref q18, .int 0, .ref q19, .ref q20, .ref q21, .ref q22, .null, .null, .int 0, .int 0, .int 0, .int 0, .int 0, .int 0, .int 0, .null, .null, .null, .int 0, .null, .int 0]) rfl dX12_init_281 ?_
  refine k_aload_n B 0 dX12_init_284 rfl ?_
  refine k_bipush B (v := 113) dX12_init_285 (by decide) ?_
  refine k_newa B .int (ty := .int) rfl xk_122 0 rfl (fun _ => rfl) (N := 113) (a0 := (113, .inl (fun _ => 0))) (fun _ => rfl) (by decide) (by decide) (by decide) (k2 := 23) (n2 := 1441) rfl rfl ⟨by decide, by decide⟩ dX12_init_287 (fun q23 => ?_)
  refine k_putF C 57 k_12 ty_12 (by decide) rfl rfl x_1299 rfl rfl (Nat.le_of_ble_eq_true rfl) (fs2 := [.int 0, .ref q1, .int 0, .int 0, .int 0, .int 0, .int 0, .int 0, .int 0, .int 0, .int 0, .long 0, .int 0, .ref q2, .int 1, .int 700, .int 40, .int 0, .int 0, .int 0, .int 0, .ref q3, .ref q4, .ref q5, .int 0, .int 0, .int 0, .int 0, .ref q6, .ref q7, .ref q8, .ref q9, .ref q10, .ref q11, .ref q12, .ref q13, .ref q14, .ref q15, .int 0, .int 0, .int 0, .int 0, .ref q16, .int 0, .int 0, .int 0, .int 0, .int 0, .int 0, .int 0, .ref q17, .ref q18, .int 0, .ref q19, .ref q20, .ref q21, .ref q22, .ref q23, .null, .int 0, .int 0, .int 0, .int 0, .int 0, .int 0, .int 0, .null, .null, .null, .int 0, .null, .int 0]) rfl dX12_init_289 ?_
  refine k_aload_n B 0 dX12_init_292 rfl ?_
  refine k_bipush B (v := 113) dX12_init_293 (by decide) ?_
  refine k_newa B .int (ty := .int) rfl xk_122 0 rfl (fun _ => rfl) (N := 113) (a0 := (113, .inl (fun _ => 0))) (fun _ => rfl) (by decide) (by decide) (by decide) (k2 := 24) (n2 := 1554) rfl rfl ⟨by decide, by decide⟩ dX12_init_295 (fun q24 => ?_)
  refine k_putF C 58 k_12 ty_12 (by decide) rfl rfl x_1300 rfl rfl (Nat.le_of_ble_eq_true rfl) (fs2 := [.int 0, .ref q1, .int 0, .int 0, .int 0, .int 0, .int 0, .int 0, .int 0, .int 0, .int 0, .long 0, .int 0, .ref q2, .int 1, .int 700, .int 40, .int 0, .int 0, .int 0, .int 0, .ref q3, .ref q4, .ref q5, .int 0, .int 0, .int 0, .int 0, .ref q6, .ref q7, .ref q8, .ref q9, .ref q10, .ref q11, .ref q12, .ref q13, .ref q14, .ref q15, .int 0, .int 0, .int 0, .int 0, .ref q16, .int 0, .int 0, .int 0, .int 0, .int 0, .int 0, .int 0, .ref q17, .ref q18, .int 0, .ref q19, .ref q20, .ref q21, .ref q22, .ref q23, .ref q24, .int 0, .int 0, .int 0, .int 0, .int 0, .int 0, .int 0, .null, .null, .null, .int 0, .null, .int 0]) rfl dX12_init_297 ?_
  refine k_aload_n B 0 dX12_init_300 rfl ?_
  refine k_bipush B (v := 40) dX12_init_301 (by decide) ?_
  refine k_newa B .long (ty := .long) rfl xk_494 2 rfl (fun _ => rfl) (N := 40) (a0 := (40, .inr (.inl (fun _ => 0)))) (fun _ => rfl) (by decide) (by decide) (by decide) (k2 := 25) (n2 := 1594) rfl rfl ⟨by decide, by decide⟩ dX12_init_303 (fun q25 => ?_)
  refine k_putF C 66 k_12 ty_12 (by decide) rfl rfl x_1308 rfl rfl (Nat.le_of_ble_eq_true rfl) (fs2 := [.int 0, .ref q1, .int 0, .int 0, .int 0, .int 0, .int 0, .int 0, .int 0, .int 0, .int 0, .long 0, .int 0, .ref q2, .int 1, .int 700, .int 40, .int 0, .int 0, .int 0, .int 0, .ref q3, .ref q4, .ref q5, .int 0, .int 0, .int 0, .int 0, .ref q6, .ref q7, .ref q8, .ref q9, .ref q10, .ref q11, .ref q12, .ref q13, .ref q14, .ref q15, .int 0, .int 0, .int 0, .int 0, .ref q16, .int 0, .int 0, .int 0, .int 0, .int 0, .int 0, .int 0, .ref q17, .ref q18, .int 0, .ref q19, .ref q20, .ref q21, .ref q22, .ref q23, .ref q24, .int 0, .int 0, .int 0, .int 0, .int 0, .int 0, .int 0, .ref q25, .null, .null, .int 0, .null, .int 0]) rfl dX12_init_305 ?_
  refine k_aload_n B 0 dX12_init_308 rfl ?_
  refine k_bipush B (v := 40) dX12_init_309 (by decide) ?_
  refine k_newa B .long (ty := .long) rfl xk_494 2 rfl (fun _ => rfl) (N := 40) (a0 := (40, .inr (.inl (fun _ => 0)))) (fun _ => rfl) (by decide) (by decide) (by decide) (k2 := 26) (n2 := 1634) rfl rfl ⟨by decide, by decide⟩ dX12_init_311 (fun q26 => ?_)
  refine k_putF C 67 k_12 ty_12 (by decide) rfl rfl x_1309 rfl rfl (Nat.le_of_ble_eq_true rfl) (fs2 := [.int 0, .ref q1, .int 0, .int 0, .int 0, .int 0, .int 0, .int 0, .int 0, .int 0, .int 0, .long 0, .int 0, .ref q2, .int 1, .int 700, .int 40, .int 0, .int 0, .int 0, .int 0, .ref q3, .ref q4, .ref q5, .int 0, .int 0, .int 0, .int 0, .ref q6, .ref q7, .ref q8, .ref q9, .ref q10, .ref q11, .ref q12, .ref q13, .ref q14, .ref q15, .int 0, .int 0, .int 0, .int 0, .ref q16, .int 0, .int 0, .int 0, .int 0, .int 0, .int 0, .int 0, .ref q17, .ref q18, .int 0, .ref q19, .ref q20, .ref q21, .ref q22, .ref q23, .ref q24, .int 0, .int 0, .int 0, .int 0, .int 0, .int 0, .int 0, .ref q25, .ref q26, .null, .int 0, .null, .int 0]) rfl dX12_init_313 ?_
  refine k_aload_n B 0 dX12_init_316 rfl ?_
  refine k_bipush B (v := 40) dX12_init_317 (by decide) ?_
  refine k_newa B .boolean (ty := .boolean) rfl xk_495 1 rfl (fun _ => rfl) (N := 40) (a0 := (40, .inl (fun _ => 0))) (fun _ => rfl) (by decide) (by decide) (by decide) (k2 := 27) (n2 := 1674) rfl rfl ⟨by decide, by decide⟩ dX12_init_319 (fun q27 => ?_)
  refine k_putF C 68 k_12 ty_12 (by decide) rfl rfl x_1310 rfl rfl (Nat.le_of_ble_eq_true rfl) (fs2 := [.int 0, .ref q1, .int 0, .int 0, .int 0, .int 0, .int 0, .int 0, .int 0, .int 0, .int 0, .long 0, .int 0, .ref q2, .int 1, .int 700, .int 40, .int 0, .int 0, .int 0, .int 0, .ref q3, .ref q4, .ref q5, .int 0, .int 0, .int 0, .int 0, .ref q6, .ref q7, .ref q8, .ref q9, .ref q10, .ref q11, .ref q12, .ref q13, .ref q14, .ref q15, .int 0, .int 0, .int 0, .int 0, .ref q16, .int 0, .int 0, .int 0, .int 0, .int 0, .int 0, .int 0, .ref q17, .ref q18, .int 0, .ref q19, .ref q20, .ref q21, .ref q22, .ref q23, .ref q24, .int 0, .int 0, .int 0, .int 0, .int 0, .int 0, .int 0, .ref q25, .ref q26, .ref q27, .int 0, .null, .int 0]) rfl dX12_init_321 ?_
  refine k_aload_n B 0 dX12_init_324 rfl ?_
  refine k_bipush B (v := 40) dX12_init_325 (by decide) ?_
  refine k_newa B .int (ty := .int) rfl xk_122 0 rfl (fun _ => rfl) (N := 40) (a0 := (40, .inl (fun _ => 0))) (fun _ => rfl) (by decide) (by decide) (by decide) (k2 := 28) (n2 := 1714) rfl rfl ⟨by decide, by decide⟩ dX12_init_327 (fun q28 => ?_)
  refine k_putF C 70 k_12 ty_12 (by decide) rfl rfl x_1312 rfl rfl (Nat.le_of_ble_eq_true rfl) (fs2 := [.int 0, .ref q1, .int 0, .int 0, .int 0, .int 0, .int 0, .int 0, .int 0, .int 0, .int 0, .long 0, .int 0, .ref q2, .int 1, .int 700, .int 40, .int 0, .int 0, .int 0, .int 0, .ref q3, .ref q4, .ref q5, .int 0, .int 0, .int 0, .int 0, .ref q6, .ref q7, .ref q8, .ref q9, .ref q10, .ref q11, .ref q12, .ref q13, .ref q14, .ref q15, .int 0, .int 0, .int 0, .int 0, .ref q16, .int 0, .int 0, .int 0, .int 0, .int 0, .int 0, .int 0, .ref q17, .ref q18, .int 0, .ref q19, .ref q20, .ref q21, .ref q22, .ref q23, .ref q24, .int 0, .int 0, .int 0, .int 0, .int 0, .int 0, .int 0, .ref q25, .ref q26, .ref q27, .int 0, .ref q28, .int 0]) rfl dX12_init_329 ?_
  exact k_ret C rfl rfl dX12_init_332 ⟨adL [[], [], [], [], [], [], [], [], [], [], [], [], [h0], [], [], [], [], [], [], [], [], [], [], [], [], [], [], [], [], [], [], [], [], [], [], [], [], [], [], [], [], [q1], [q2], [q3], [q4], [q5], [q6], [q7], [q8], [q9], [q10], [q11], [q12], [q13], [q14], [q15], [q16], [q17], [q18], [q19], [q20], [q21], [q22], [q23], [q24], [q25], [q26], [q27], [q28]], rfl, rfl⟩
