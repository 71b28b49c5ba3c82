abbrev P_X12_thrown (w : Wi) (z : Wj) : Int32 → WW → Prop := fun r_ u_ => r_ = ((w 1060 0 0)) ∧ u_ = (w, z)
set_option maxHeartbeats 4000000 in
set_option maxRecDepth 100000 in
theorem c_X12_thrown (E : En) (hM : q_okM E) (w : Wi) (z : Wj) : CtI M_X12_thrown E [.ref (E.ad 12 0)] w z (P_X12_thrown w z) := by
  have hE := hM.1
  refine ctI_of (lv := [(0, .ref (E.ad 12 0))]) hE m_X12_thrown (Nat.le_of_ble_eq_true rfl) rfl ?_
  intro K A C0
  have C : Cx K E A cX12_thrown 1 RX12 (some .int) { frames := 0, cells := 0, slots := 0, locals := 0 } := C0
  clear C0
  refine v_aload_n C 0 dX12_thrown_0 rfl ?_
  refine v_gI C 12 0 0 1060 (w 1060 0 0) (hM.2 _ (u_12 0 (by decide))) k_12 (by decide) rfl rfl x_1242 rfl dX12_thrown_1 ?_
  exact v_iret C dX12_thrown_4 ⟨rfl, (congr (congrArg Prod.mk rfl) rfl)⟩
abbrev P_X12_refuse (w : Wi) (z : Wj) : Int32 → WW → Prop := fun r_ u_ => r_ = (0) ∧ u_ = ((wS w 1060 0 (fun _ => 1)), z)
set_option maxHeartbeats 4000000 in
set_option maxRecDepth 100000 in
theorem c_X12_refuse (E : En) (hM : q_okM E) (w : Wi) (z : Wj) : CtI M_X12_refuse E [.ref (E.ad 12 0)] w z (P_X12_refuse w z) := by
  have hE := hM.1
  refine ctI_of (lv := [(0, .ref (E.ad 12 0))]) hE m_X12_refuse (Nat.le_of_ble_eq_true rfl) rfl ?_
  intro K A C0
  have C : Cx K E A cX12_refuse 1 RX12 (some .int) { frames := 0, cells := 0, slots := 0, locals := 0 } := C0
  clear C0
  refine v_aload_n C 0 dX12_refuse_0 rfl ?_
  refine v_iconst (v := 1) C dX12_refuse_1 (by decide) ?_
  refine v_pI C 12 0 0 1060 (hM.2 _ (u_12 0 (by decide))) k_12 ty_12 (by decide) rfl ⟨rfl, rfl⟩ x_1242 rfl rfl dX12_refuse_2 ?_
  refine v_iconst (v := 0) C dX12_refuse_5 (by decide) ?_
  exact v_iret C dX12_refuse_6 ⟨rfl, (congr (congrArg Prod.mk rfl) rfl)⟩
abbrev P_X12_isIn (w : Wi) (z : Wj) (v : Int32) (a : Int32) (b : Int32) : Int32 → WW → Prop := fun r_ u_ => r_ = (if a ≤ v ∧ v ≤ b then 1 else 0) ∧ u_ = (w, z)
set_option maxHeartbeats 4000000 in
set_option maxRecDepth 100000 in
theorem c_X12_isIn (E : En) (hM : q_okM E) (w : Wi) (z : Wj) (v : Int32) (a : Int32) (b : Int32) : CtI M_X12_isIn E [.int v, .int a, .int b] w z (P_X12_isIn w z v a b) := by
  have hE := hM.1
  refine ctI_of (lv := [(0, .int v), (1, .int a), (2, .int b)]) hE m_X12_isIn (Nat.le_of_ble_eq_true rfl) rfl ?_
  intro K A C0
  have C : Cx K E A cX12_isIn 3 RX12 (some .boolean) { frames := 0, cells := 0, slots := 0, locals := 0 } := C0
  clear C0
  refine v_iload_n C 0 dX12_isIn_0 rfl ?_
  refine v_iload_n C 1 dX12_isIn_1 rfl ?_
  refine v_ic_lt C 14 dX12_isIn_2 (by decide) (fun c_2 => ?_) (fun c_2 => ?_)
  · refine v_iconst (v := 0) C dX12_isIn_14 (by decide) ?_
    exact v_zret C dX12_isIn_15 (by decide) ⟨(by clear C; grind), (congr (congrArg Prod.mk rfl) rfl)⟩
  · refine v_iload_n C 0 dX12_isIn_5 rfl ?_
    refine v_iload_n C 2 dX12_isIn_6 rfl ?_
    refine v_ic_gt C 14 dX12_isIn_7 (by decide) (fun c_7 => ?_) (fun c_7 => ?_)
    · refine v_iconst (v := 0) C dX12_isIn_14 (by decide) ?_
      exact v_zret C dX12_isIn_15 (by decide) ⟨(by clear C; grind), (congr (congrArg Prod.mk rfl) rfl)⟩
    · refine v_iconst (v := 1) C dX12_isIn_10 (by decide) ?_
      refine v_goto C 15 dX12_isIn_11 (by decide) ?_
      exact v_zret C dX12_isIn_15 (by decide) ⟨(by clear C; grind), (congr (congrArg Prod.mk rfl) rfl)⟩
abbrev P_X12_isDigit (w : Wi) (z : Wj) (c : Int32) : Int32 → WW → Prop := fun r_ u_ => r_ = (if 48 ≤ c ∧ c ≤ 57 then 1 else 0) ∧ u_ = (w, z)
set_option maxHeartbeats 4000000 in
set_option maxRecDepth 100000 in
theorem c_X12_isDigit (E : En) (hM : q_okM E) (w : Wi) (z : Wj) (c : Int32) : CtI M_X12_isDigit E [.int c] w z (P_X12_isDigit w z c) := by
  have hE := hM.1
  refine ctI_of (lv := [(0, .int c)]) hE m_X12_isDigit (Nat.le_of_ble_eq_true rfl) rfl ?_
  intro K A C0
  have C : Cx K E A cX12_isDigit 1 RX12 (some .boolean) { frames := 0, cells := 0, slots := 0, locals := 0 } := C0
  clear C0
  refine v_iload_n C 0 dX12_isDigit_0 rfl ?_
  refine v_bipush (v := 48) C dX12_isDigit_1 (by decide) ?_
  refine v_ic_lt C 16 dX12_isDigit_3 (by decide) (fun c_3 => ?_) (fun c_3 => ?_)
  · refine v_iconst (v := 0) C dX12_isDigit_16 (by decide) ?_
    exact v_zret C dX12_isDigit_17 (by decide) ⟨(by clear C; grind), (congr (congrArg Prod.mk rfl) rfl)⟩
  · refine v_iload_n C 0 dX12_isDigit_6 rfl ?_
    refine v_bipush (v := 57) C dX12_isDigit_7 (by decide) ?_
    refine v_ic_gt C 16 dX12_isDigit_9 (by decide) (fun c_9 => ?_) (fun c_9 => ?_)
    · refine v_iconst (v := 0) C dX12_isDigit_16 (by decide) ?_
      exact v_zret C dX12_isDigit_17 (by decide) ⟨(by clear C; grind), (congr (congrArg Prod.mk rfl) rfl)⟩
    · refine v_iconst (v := 1) C dX12_isDigit_12 (by decide) ?_
      refine v_goto C 17 dX12_isDigit_13 (by decide) ?_
      exact v_zret C dX12_isDigit_17 (by decide) ⟨(by clear C; grind), (congr (congrArg Prod.mk rfl) rfl)⟩
abbrev P_X12_isLetter (w : Wi) (z : Wj) (c : Int32) : Int32 → WW → Prop := fun r_ u_ => r_ = (if 97 ≤ c ∧ c ≤ 122 then 1 else 0) ∧ u_ = (w, z)
set_option maxHeartbeats 4000000 in
set_option maxRecDepth 100000 in
theorem c_X12_isLetter (E : En) (hM : q_okM E) (w : Wi) (z : Wj) (c : Int32) : CtI M_X12_isLetter E [.int c] w z (P_X12_isLetter w z c) := by
  have hE := hM.1
  refine ctI_of (lv := [(0, .int c)]) hE m_X12_isLetter (Nat.le_of_ble_eq_true rfl) rfl ?_
  intro K A C0
  have C : Cx K E A cX12_isLetter 1 RX12 (some .boolean) { frames := 0, cells := 0, slots := 0, locals := 0 } := C0
  clear C0
  refine v_iload_n C 0 dX12_isLetter_0 rfl ?_
  refine v_bipush (v := 97) C dX12_isLetter_1 (by decide) ?_
  refine v_ic_lt C 16 dX12_isLetter_3 (by decide) (fun c_3 => ?_) (fun c_3 => ?_)
  · refine v_iconst (v := 0) C dX12_isLetter_16 (by decide) ?_
    exact v_zret C dX12_isLetter_17 (by decide) ⟨(by clear C; grind), (congr (congrArg Prod.mk rfl) rfl)⟩
  · refine v_iload_n C 0 dX12_isLetter_6 rfl ?_
    refine v_bipush (v := 122) C dX12_isLetter_7 (by decide) ?_
    refine v_ic_gt C 16 dX12_isLetter_9 (by decide) (fun c_9 => ?_) (fun c_9 => ?_)
    · refine v_iconst (v := 0) C dX12_isLetter_16 (by decide) ?_
      exact v_zret C dX12_isLetter_17 (by decide) ⟨(by clear C; grind), (congr (congrArg Prod.mk rfl) rfl)⟩
    · refine v_iconst (v := 1) C dX12_isLetter_12 (by decide) ?_
      refine v_goto C 17 dX12_isLetter_13 (by decide) ?_
      exact v_zret C dX12_isLetter_17 (by decide) ⟨(by clear C; grind), (congr (congrArg Prod.mk rfl) rfl)⟩
abbrev P_X12_byteAt (w : Wi) (z : Wj) (p : Int32) : Int32 → WW → Prop := fun r_ u_ => r_ = (if p < (w 1063 0 0) then (w 41 0) (p).toNatClampNeg else 0) ∧ u_ = (w, z)
set_option maxHeartbeats 4000000 in
set_option maxRecDepth 100000 in
theorem c_X12_byteAt (E : En) (hM : q_okM E) (w : Wi) (z : Wj) (p : Int32) (h1 : 0 ≤ p) (h2 : (w 1063 0 0) ≤ 740) : CtI M_X12_byteAt E [.ref (E.ad 12 0), .int p] w z (P_X12_byteAt w z p) := by
  have hE := hM.1
  refine ctI_of (lv := [(0, .ref (E.ad 12 0)), (1, .int p)]) hE m_X12_byteAt (Nat.le_of_ble_eq_true rfl) rfl ?_
  intro K A C0
  have C : Cx K E A cX12_byteAt 2 RX12 (some .int) { frames := 0, cells := 0, slots := 0, locals := 0 } := C0
  clear C0
  refine v_iload_n C 1 dX12_byteAt_0 rfl ?_
  refine v_aload_n C 0 dX12_byteAt_1 rfl ?_
  refine v_gI C 12 0 3 1063 (w 1063 0 0) (hM.2 _ (u_12 0 (by decide))) k_12 (by decide) rfl rfl x_1245 rfl dX12_byteAt_2 ?_
  refine v_ic_ge C 17 dX12_byteAt_5 (by decide) (fun c_5 => ?_) (fun c_5 => ?_)
  · refine v_iconst (v := 0) C dX12_byteAt_17 (by decide) ?_
    exact v_iret C dX12_byteAt_18 ⟨(by clear C; grind), (congr (congrArg Prod.mk rfl) rfl)⟩
  · refine v_aload_n C 0 dX12_byteAt_8 rfl ?_
    refine v_gR C 12 0 1 41 0 (hM.2 _ (u_12 0 (by decide))) k_12 (by decide) x_1243 (fun _ _ _ => rfl) dX12_byteAt_9 ?_
    refine v_iload_n C 1 dX12_byteAt_12 rfl ?_
    refine v_iald C 41 0 (hM.2 _ (u_41 0 (by decide))) ⟨by decide, rfl, rfl⟩ (v_in (N := 740) (by decide) (by clear C; grind) (by clear C; grind)) dX12_byteAt_13 ?_
    refine v_goto C 18 dX12_byteAt_14 (by decide) ?_
    exact v_iret C dX12_byteAt_18 ⟨(by clear C; grind), (congr (congrArg Prod.mk rfl) rfl)⟩
abbrev P_X12_isKey (w : Wi) (z : Wj) (k : Int64) : Int32 → WW → Prop := fun r_ u_ => r_ = (if (w 1067 0 0) = 2 ∧ (z 1071 0 0) = k then 1 else 0) ∧ u_ = (w, z)
set_option maxHeartbeats 4000000 in
set_option maxRecDepth 100000 in
theorem c_X12_isKey (E : En) (hM : q_okM E) (w : Wi) (z : Wj) (k : Int64) : CtI M_X12_isKey E [.ref (E.ad 12 0), .long k] w z (P_X12_isKey w z k) := by
  have hE := hM.1
  refine ctI_of (lv := [(0, .ref (E.ad 12 0)), (1, .long k)]) hE m_X12_isKey (Nat.le_of_ble_eq_true rfl) rfl ?_
  intro K A C0
  have C : Cx K E A cX12_isKey 3 RX12 (some .boolean) { frames := 0, cells := 0, slots := 0, locals := 0 } := C0
  clear C0
  refine v_aload_n C 0 dX12_isKey_0 rfl ?_
  refine v_gI C 12 0 7 1067 (w 1067 0 0) (hM.2 _ (u_12 0 (by decide))) k_12 (by decide) rfl rfl x_1249 rfl dX12_isKey_1 ?_
  refine v_iconst (v := 2) C dX12_isKey_4 (by decide) ?_
  refine v_ic_ne C 21 dX12_isKey_5 (by decide) (fun c_5 => ?_) (fun c_5 => ?_)
  · refine v_iconst (v := 0) C dX12_isKey_21 (by decide) ?_
    exact v_zret C dX12_isKey_22 (by decide) ⟨(by clear C; grind), (congr (congrArg Prod.mk rfl) rfl)⟩
  · refine v_aload_n C 0 dX12_isKey_8 rfl ?_
    refine v_gJ C 12 0 11 1071 (z 1071 0 0) (hM.2 _ (u_12 0 (by decide))) k_12 (by decide) rfl rfl x_1253 rfl dX12_isKey_9 ?_
    refine v_lload_n C 1 dX12_isKey_12 rfl ?_
    refine v_lcmp C dX12_isKey_13 ?_
    refine v_if_ne C 21 dX12_isKey_14 (by decide) (fun c_14 => ?_) (fun c_14 => ?_)
    · rw [lg_cmp_eq] at c_14
      refine v_iconst (v := 0) C dX12_isKey_21 (by decide) ?_
      exact v_zret C dX12_isKey_22 (by decide) ⟨(by clear C; grind), (congr (congrArg Prod.mk rfl) rfl)⟩
    · rw [lg_cmp_eq] at c_14
      refine v_iconst (v := 1) C dX12_isKey_17 (by decide) ?_
      refine v_goto C 22 dX12_isKey_18 (by decide) ?_
      exact v_zret C dX12_isKey_22 (by decide) ⟨(by clear C; grind), (congr (congrArg Prod.mk rfl) rfl)⟩
abbrev P_X12_bad (w : Wi) (z : Wj) (k : Int32) : Int32 → WW → Prop := fun r_ u_ => r_ = (0) ∧ u_ = ((wS (wS w 1069 0 (fun _ => if (w 1067 0 0) = 1 then 1 else k)) 1070 0 (fun _ => (w 1066 0 0))), z)
set_option maxHeartbeats 4000000 in
set_option maxRecDepth 100000 in
theorem c_X12_bad (E : En) (hM : q_okM E) (w : Wi) (z : Wj) (k : Int32) : CtI M_X12_bad E [.ref (E.ad 12 0), .int k] w z (P_X12_bad w z k) := by
  have hE := hM.1
  refine ctI_of (lv := [(0, .ref (E.ad 12 0)), (1, .int k)]) hE m_X12_bad (Nat.le_of_ble_eq_true rfl) rfl ?_
  intro K A C0
  have C : Cx K E A cX12_bad 2 RX12 (some .boolean) { frames := 0, cells := 0, slots := 0, locals := 0 } := C0
  clear C0
  refine v_aload_n C 0 dX12_bad_0 rfl ?_
  refine v_aload_n C 0 dX12_bad_1 rfl ?_
  refine v_gI C 12 0 7 1067 (w 1067 0 0) (hM.2 _ (u_12 0 (by decide))) k_12 (by decide) rfl rfl x_1249 rfl dX12_bad_2 ?_
  refine v_iconst (v := 1) C dX12_bad_5 (by decide) ?_
  refine v_ic_ne C 13 dX12_bad_6 (by decide) (fun c_6 => ?_) (fun c_6 => ?_)
  · refine v_iload_n C 1 dX12_bad_13 rfl ?_
    refine v_pI C 12 0 9 1069 (hM.2 _ (u_12 0 (by decide))) k_12 ty_12 (by decide) rfl ⟨rfl, rfl⟩ x_1251 rfl rfl dX12_bad_14 ?_
    refine v_aload_n C 0 dX12_bad_17 rfl ?_
    refine v_aload_n C 0 dX12_bad_18 rfl ?_
    refine v_gI C 12 0 6 1066 (w 1066 0 0) (hM.2 _ (u_12 0 (by decide))) k_12 (by decide) rfl rfl x_1248 (by simp only [wS_s, wS_t, wS_a, ne_eq, Nat.reduceEqDiff, not_false_eq_true, L7_1]) dX12_bad_19 ?_
    refine v_pI C 12 0 10 1070 (hM.2 _ (u_12 0 (by decide))) k_12 ty_12 (by decide) rfl ⟨rfl, rfl⟩ x_1252 rfl rfl dX12_bad_22 ?_
    refine v_iconst (v := 0) C dX12_bad_25 (by decide) ?_
    exact v_zret C dX12_bad_26 (by decide) ⟨rfl, (congr (congrArg Prod.mk (wS_eq (wS_eq rfl (fu_eq (by clear C; grind))) rfl)) rfl)⟩
  · refine v_iconst (v := 1) C dX12_bad_9 (by decide) ?_
    refine v_goto C 14 dX12_bad_10 (by decide) ?_
    refine v_pI C 12 0 9 1069 (hM.2 _ (u_12 0 (by decide))) k_12 ty_12 (by decide) rfl ⟨rfl, rfl⟩ x_1251 rfl rfl dX12_bad_14 ?_
    refine v_aload_n C 0 dX12_bad_17 rfl ?_
    refine v_aload_n C 0 dX12_bad_18 rfl ?_
    refine v_gI C 12 0 6 1066 (w 1066 0 0) (hM.2 _ (u_12 0 (by decide))) k_12 (by decide) rfl rfl x_1248 (by simp only [wS_s, wS_t, wS_a, ne_eq, Nat.reduceEqDiff, not_false_eq_true, L7_1]) dX12_bad_19 ?_
    refine v_pI C 12 0 10 1070 (hM.2 _ (u_12 0 (by decide))) k_12 ty_12 (by decide) rfl ⟨rfl, rfl⟩ x_1252 rfl rfl dX12_bad_22 ?_
    refine v_iconst (v := 0) C dX12_bad_25 (by decide) ?_
    exact v_zret C dX12_bad_26 (by decide) ⟨rfl, (congr (congrArg Prod.mk (wS_eq (wS_eq rfl (fu_eq (by clear C; grind))) rfl)) rfl)⟩
abbrev P_X12_lay (w : Wi) (z : Wj) : WW → Prop := fun u_ => u_ = ((wS (wS w 42 0 (L7 (w 42 0) (w 1080 0 0))) 1080 0 (fun _ => 1)), z)
set_option maxHeartbeats 4000000 in
set_option maxRecDepth 100000 in
theorem c_X12_lay (E : En) (hM : q_okM E) (w : Wi) (z : Wj) (h1 : (w 1080 0 0) = 0 ∨ (w 1080 0 0) = 1) : CtV M_X12_lay E [.ref (E.ad 12 0)] w z (P_X12_lay w z) := by
  have hE := hM.1
  refine ctV_of (lv := [(0, .ref (E.ad 12 0))]) hE m_X12_lay (Nat.le_of_ble_eq_true rfl) rfl ?_
  intro K A C0
  have C : Cx K E A cX12_lay 1 RX12 none { frames := 0, cells := 0, slots := 0, locals := 0 } := C0
  clear C0
  refine v_aload_n C 0 dX12_lay_0 rfl ?_
  refine v_gI C 12 0 20 1080 (w 1080 0 0) (hM.2 _ (u_12 0 (by decide))) k_12 (by decide) rfl rfl x_1262 rfl dX12_lay_1 ?_
  refine v_if_eq C 8 dX12_lay_4 (by decide) (fun c_4 => ?_) (fun c_4 => ?_)
  · refine v_aload_n C 0 dX12_lay_8 rfl ?_
    refine v_iconst (v := 1) C dX12_lay_9 (by decide) ?_
    refine v_pI C 12 0 20 1080 (hM.2 _ (u_12 0 (by decide))) k_12 ty_12 (by decide) rfl ⟨rfl, rfl⟩ x_1262 (by decide) (by decide) dX12_lay_10 ?_
    refine v_aload_n C 0 dX12_lay_13 rfl ?_
    refine v_gR C 12 0 13 42 0 (hM.2 _ (u_12 0 (by decide))) k_12 (by decide) x_1255 (fun _ _ _ => rfl) dX12_lay_14 ?_
    refine v_bipush (v := 32) C dX12_lay_17 (by decide) ?_
    refine v_bipush (v := 50) C dX12_lay_19 (by decide) ?_
    refine v_iast C 42 0 (hM.2 _ (u_42 0 (by decide))) ⟨by decide, rfl, rfl⟩ (v_in (x := 32) (N := 224) (by decide) (by decide) (by decide)) dX12_lay_21 ?_
    refine v_aload_n C 0 dX12_lay_22 rfl ?_
    refine v_gR C 12 0 13 42 0 (hM.2 _ (u_12 0 (by decide))) k_12 (by decide) x_1255 (fun _ _ _ => rfl) dX12_lay_23 ?_
    refine v_sipush (v := 160) C dX12_lay_26 (by decide) ?_
    refine v_bipush (v := 100) C dX12_lay_29 (by decide) ?_
    refine v_iast C 42 0 (hM.2 _ (u_42 0 (by decide))) ⟨by decide, rfl, rfl⟩ (v_in (x := 160) (N := 224) (by decide) (by decide) (by decide)) dX12_lay_31 ?_
    refine v_w (w2 := (wS (wS w 42 0 (upd (upd (w 42 0) (32 : Int32).toNatClampNeg 50) (160 : Int32).toNatClampNeg 100)) 1080 0 (fun _ => 1))) (by simp only [wS_s, wS_t, wS_a, ne_eq, Nat.reduceEqDiff, not_false_eq_true, wS_wS, wS_p, wS_pp, Nat.reduceLT, id_eq, L7_1]) ?_
    exact v_vret C dX12_lay_32 (congr (congrArg Prod.mk (wS_eq (wS_eq rfl (by clear C; simp only [L7]; first | (rw [if_pos (by assumption)]; first | done | rfl) | (rw [if_neg (by assumption)]))) rfl)) rfl)
  · refine v_w (wS_id _ 42 0).symm ?_
    refine v_tS C 1080 0 (by decide) ?_
    refine v_w (w2 := (wS (wS w 42 0 (w 42 0)) 1080 0 (fun _ => (w 1080 0 0)))) (by simp only [wS_s, wS_t, wS_a, ne_eq, Nat.reduceEqDiff, not_false_eq_true, wS_wS, wS_p, wS_pp, Nat.reduceLT, id_eq, L7_1]) ?_
    exact v_vret C dX12_lay_7 (congr (congrArg Prod.mk (wS_eq (wS_eq rfl (by clear C; simp only [L7]; first | (rw [if_pos (by assumption)]; first | done | rfl) | (rw [if_neg (by assumption)]))) (fu_eq (by clear C; have := h1; grind)))) rfl)
abbrev P_X12_take (w : Wi) (z : Wj) : Int32 → WW → Prop := fun r_ u_ => r_ = ((w 1062 0 0)) ∧ u_ = ((wS w 1062 0 (fun _ => 0)), z)
set_option maxHeartbeats 4000000 in
set_option maxRecDepth 100000 in
theorem c_X12_take (E : En) (hM : q_okM E) (w : Wi) (z : Wj) : CtI M_X12_take E [.ref (E.ad 12 0)] w z (P_X12_take w z) := by
  have hE := hM.1
  refine ctI_of (lv := [(0, .ref (E.ad 12 0))]) hE m_X12_take (Nat.le_of_ble_eq_true rfl) rfl ?_
  intro K A C0
  have C : Cx K E A cX12_take 2 RX12 (some .int) { frames := 0, cells := 0, slots := 0, locals := 0 } := C0
  clear C0
  refine v_aload_n C 0 dX12_take_0 rfl ?_
  refine v_gI C 12 0 2 1062 (w 1062 0 0) (hM.2 _ (u_12 0 (by decide))) k_12 (by decide) rfl rfl x_1244 rfl dX12_take_1 ?_
  refine v_istore_n (lv2 := [(1, .int (w 1062 0 0)), (0, .ref (E.ad 12 0))]) C dX12_take_4 rfl (by decide) rfl ?_
  refine v_aload_n C 1 dX12_take_5 rfl ?_
  refine v_iconst (v := 0) C dX12_take_6 (by decide) ?_
  refine v_pI C 12 0 2 1062 (hM.2 _ (u_12 0 (by decide))) k_12 ty_12 (by decide) rfl ⟨rfl, rfl⟩ x_1244 rfl rfl dX12_take_7 ?_
  refine v_iload_n C 0 dX12_take_10 rfl ?_
  exact v_iret C dX12_take_11 ⟨rfl, (congr (congrArg Prod.mk rfl) rfl)⟩
abbrev P_X12_end (w : Wi) (z : Wj) (n : Int32) : Int32 → WW → Prop := fun r_ u_ => r_ = (if n < 0 ∨ (w 1062 0 0) < n then 0 else 1) ∧ u_ = ((wS (wS w 1060 0 (fun _ => 0)) 1062 0 (fun _ => if n < 0 ∨ (w 1062 0 0) < n then (w 1062 0 0) else n)), z)
set_option maxHeartbeats 4000000 in
set_option maxRecDepth 100000 in
theorem c_X12_end (E : En) (hM : q_okM E) (w : Wi) (z : Wj) (n : Int32) : CtI M_X12_end E [.ref (E.ad 12 0), .int n] w z (P_X12_end w z n) := by
  have hE := hM.1
  refine ctI_of (lv := [(0, .ref (E.ad 12 0)), (1, .int n)]) hE m_X12_end (Nat.le_of_ble_eq_true rfl) rfl ?_
  intro K A C0
  have C : Cx K E A cX12_end 2 RX12 (some .boolean) { frames := 0, cells := 0, slots := 0, locals := 0 } := C0
  clear C0
  refine v_aload_n C 0 dX12_end_0 rfl ?_
  refine v_iconst (v := 0) C dX12_end_1 (by decide) ?_
  refine v_pI C 12 0 0 1060 (hM.2 _ (u_12 0 (by decide))) k_12 ty_12 (by decide) rfl ⟨rfl, rfl⟩ x_1242 rfl rfl dX12_end_2 ?_
  refine v_iload_n C 1 dX12_end_5 rfl ?_
  refine v_if_lt C 17 dX12_end_6 (by decide) (fun c_6 => ?_) (fun c_6 => ?_)
  · refine v_iconst (v := 0) C dX12_end_17 (by decide) ?_
    refine v_tS C 1062 0 (by decide) ?_
    refine v_w (w2 := (wS (wS w 1060 0 (fun _ => 0)) 1062 0 (fun _ => (w 1062 0 0)))) (by simp only [wS_s, wS_t, wS_a, ne_eq, Nat.reduceEqDiff, not_false_eq_true, wS_wS, wS_p, wS_pp, Nat.reduceLT, id_eq, L7_1]) ?_
    exact v_zret C dX12_end_18 (by decide) ⟨(by clear C; grind), (congr (congrArg Prod.mk (wS_eq (wS_eq rfl rfl) (fu_eq (by clear C; grind)))) rfl)⟩
  · refine v_iload_n C 1 dX12_end_9 rfl ?_
    refine v_aload_n C 0 dX12_end_10 rfl ?_
    refine v_gI C 12 0 2 1062 (w 1062 0 0) (hM.2 _ (u_12 0 (by decide))) k_12 (by decide) rfl rfl x_1244 (by simp only [wS_s, wS_t, wS_a, ne_eq, Nat.reduceEqDiff, not_false_eq_true, L7_1]) dX12_end_11 ?_
    refine v_ic_le C 19 dX12_end_14 (by decide) (fun c_14 => ?_) (fun c_14 => ?_)
    · refine v_aload_n C 0 dX12_end_19 rfl ?_
      refine v_iload_n C 1 dX12_end_20 rfl ?_
      refine v_pI C 12 0 2 1062 (hM.2 _ (u_12 0 (by decide))) k_12 ty_12 (by decide) rfl ⟨rfl, rfl⟩ x_1244 rfl rfl dX12_end_21 ?_
      refine v_iconst (v := 1) C dX12_end_24 (by decide) ?_
      exact v_zret C dX12_end_25 (by decide) ⟨(by clear C; grind), (congr (congrArg Prod.mk (wS_eq (wS_eq rfl rfl) (fu_eq (by clear C; grind)))) rfl)⟩
    · refine v_iconst (v := 0) C dX12_end_17 (by decide) ?_
      refine v_tS C 1062 0 (by decide) ?_
      refine v_w (w2 := (wS (wS w 1060 0 (fun _ => 0)) 1062 0 (fun _ => (w 1062 0 0)))) (by simp only [wS_s, wS_t, wS_a, ne_eq, Nat.reduceEqDiff, not_false_eq_true, wS_wS, wS_p, wS_pp, Nat.reduceLT, id_eq, L7_1]) ?_
      exact v_zret C dX12_end_18 (by decide) ⟨(by clear C; grind), (congr (congrArg Prod.mk (wS_eq (wS_eq rfl rfl) (fu_eq (by clear C; grind)))) rfl)⟩
abbrev P_X12_fault (w : Wi) (z : Wj) : Int32 → WW → Prop := fun r_ u_ => r_ = ((w 1069 0 0)) ∧ u_ = ((wS w 1060 0 (fun _ => 0)), z)
set_option maxHeartbeats 4000000 in
set_option maxRecDepth 100000 in
theorem c_X12_fault (E : En) (hM : q_okM E) (w : Wi) (z : Wj) : CtI M_X12_fault E [.ref (E.ad 12 0)] w z (P_X12_fault w z) := by
  have hE := hM.1
  refine ctI_of (lv := [(0, .ref (E.ad 12 0))]) hE m_X12_fault (Nat.le_of_ble_eq_true rfl) rfl ?_
  intro K A C0
  have C : Cx K E A cX12_fault 1 RX12 (some .int) { frames := 0, cells := 0, slots := 0, locals := 0 } := C0
  clear C0
  refine v_aload_n C 0 dX12_fault_0 rfl ?_
  refine v_iconst (v := 0) C dX12_fault_1 (by decide) ?_
  refine v_pI C 12 0 0 1060 (hM.2 _ (u_12 0 (by decide))) k_12 ty_12 (by decide) rfl ⟨rfl, rfl⟩ x_1242 rfl rfl dX12_fault_2 ?_
  refine v_aload_n C 0 dX12_fault_5 rfl ?_
  refine v_gI C 12 0 9 1069 (w 1069 0 0) (hM.2 _ (u_12 0 (by decide))) k_12 (by decide) rfl rfl x_1251 (by simp only [wS_s, wS_t, wS_a, ne_eq, Nat.reduceEqDiff, not_false_eq_true, L7_1]) dX12_fault_6 ?_
  exact v_iret C dX12_fault_9 ⟨rfl, (congr (congrArg Prod.mk rfl) rfl)⟩
abbrev P_X12_ran (w : Wi) (z : Wj) (wh : Int32) : Int32 → WW → Prop := fun r_ u_ => r_ = (if (w 1109 0 0) = 0 then (-1) else if wh = 0 then (w 1106 0 0) else if wh = 1 then (w 1107 0 0) else if wh = 2 then (w 1108 0 0) else (-1)) ∧ u_ = ((wS w 1060 0 (fun _ => 0)), z)
set_option maxHeartbeats 4000000 in
set_option maxRecDepth 100000 in
theorem c_X12_ran (E : En) (hM : q_okM E) (w : Wi) (z : Wj) (wh : Int32) : CtI M_X12_ran E [.ref (E.ad 12 0), .int wh] w z (P_X12_ran w z wh) := by
  have hE := hM.1
  refine ctI_of (lv := [(0, .ref (E.ad 12 0)), (1, .int wh)]) hE m_X12_ran (Nat.le_of_ble_eq_true rfl) rfl ?_
  intro K A C0
  have C : Cx K E A cX12_ran 2 RX12 (some .int) { frames := 0, cells := 0, slots := 0, locals := 0 } := C0
  clear C0
  refine v_aload_n C 0 dX12_ran_0 rfl ?_
  refine v_iconst (v := 0) C dX12_ran_1 (by decide) ?_
  refine v_pI C 12 0 0 1060 (hM.2 _ (u_12 0 (by decide))) k_12 ty_12 (by decide) rfl ⟨rfl, rfl⟩ x_1242 rfl rfl dX12_ran_2 ?_
  refine v_aload_n C 0 dX12_ran_5 rfl ?_
  refine v_gI C 12 0 49 1109 (w 1109 0 0) (hM.2 _ (u_12 0 (by decide))) k_12 (by decide) rfl rfl x_1291 (by simp only [wS_s, wS_t, wS_a, ne_eq, Nat.reduceEqDiff, not_false_eq_true, L7_1]) dX12_ran_6 ?_
  refine v_if_ne C 14 dX12_ran_9 (by decide) (fun c_9 => ?_) (fun c_9 => ?_)
  · refine v_iload_n C 1 dX12_ran_14 rfl ?_
    refine v_if_ne C 25 dX12_ran_15 (by decide) (fun c_15 => ?_) (fun c_15 => ?_)
    · refine v_iload_n C 1 dX12_ran_25 rfl ?_
      refine v_iconst (v := 1) C dX12_ran_26 (by decide) ?_
      refine v_ic_ne C 37 dX12_ran_27 (by decide) (fun c_27 => ?_) (fun c_27 => ?_)
      · refine v_iload_n C 1 dX12_ran_37 rfl ?_
        refine v_iconst (v := 2) C dX12_ran_38 (by decide) ?_
        refine v_ic_ne C 49 dX12_ran_39 (by decide) (fun c_39 => ?_) (fun c_39 => ?_)
        · refine v_iconst (v := (-1)) C dX12_ran_49 (by decide) ?_
          exact v_iret C dX12_ran_50 ⟨(by clear C; grind), (congr (congrArg Prod.mk rfl) rfl)⟩
        · refine v_aload_n C 0 dX12_ran_42 rfl ?_
          refine v_gI C 12 0 48 1108 (w 1108 0 0) (hM.2 _ (u_12 0 (by decide))) k_12 (by decide) rfl rfl x_1290 (by simp only [wS_s, wS_t, wS_a, ne_eq, Nat.reduceEqDiff, not_false_eq_true, L7_1]) dX12_ran_43 ?_
          refine v_goto C 50 dX12_ran_46 (by decide) ?_
          exact v_iret C dX12_ran_50 ⟨(by clear C; grind), (congr (congrArg Prod.mk rfl) rfl)⟩
      · refine v_aload_n C 0 dX12_ran_30 rfl ?_
        refine v_gI C 12 0 47 1107 (w 1107 0 0) (hM.2 _ (u_12 0 (by decide))) k_12 (by decide) rfl rfl x_1289 (by simp only [wS_s, wS_t, wS_a, ne_eq, Nat.reduceEqDiff, not_false_eq_true, L7_1]) dX12_ran_31 ?_
        refine v_goto C 50 dX12_ran_34 (by decide) ?_
        exact v_iret C dX12_ran_50 ⟨(by clear C; grind), (congr (congrArg Prod.mk rfl) rfl)⟩
    · refine v_aload_n C 0 dX12_ran_18 rfl ?_
      refine v_gI C 12 0 46 1106 (w 1106 0 0) (hM.2 _ (u_12 0 (by decide))) k_12 (by decide) rfl rfl x_1288 (by simp only [wS_s, wS_t, wS_a, ne_eq, Nat.reduceEqDiff, not_false_eq_true, L7_1]) dX12_ran_19 ?_
      refine v_goto C 50 dX12_ran_22 (by decide) ?_
      exact v_iret C dX12_ran_50 ⟨(by clear C; grind), (congr (congrArg Prod.mk rfl) rfl)⟩
  · refine v_iconst (v := (-1)) C dX12_ran_12 (by decide) ?_
    exact v_iret C dX12_ran_13 ⟨(by clear C; grind), (congr (congrArg Prod.mk rfl) rfl)⟩
abbrev P_X12_walked (w : Wi) (z : Wj) (wh : Int32) : Int32 → WW → Prop := fun r_ u_ => r_ = (if (w 1125 0 0) = 0 then (-1) else if wh = 0 then (w 1123 0 0) else if wh = 1 then (w 1124 0 0) else (-1)) ∧ u_ = ((wS w 1060 0 (fun _ => 0)), z)
set_option maxHeartbeats 4000000 in
set_option maxRecDepth 100000 in
theorem c_X12_walked (E : En) (hM : q_okM E) (w : Wi) (z : Wj) (wh : Int32) : CtI M_X12_walked E [.ref (E.ad 12 0), .int wh] w z (P_X12_walked w z wh) := by
  have hE := hM.1
  refine ctI_of (lv := [(0, .ref (E.ad 12 0)), (1, .int wh)]) hE m_X12_walked (Nat.le_of_ble_eq_true rfl) rfl ?_
  intro K A C0
  have C : Cx K E A cX12_walked 2 RX12 (some .int) { frames := 0, cells := 0, slots := 0, locals := 0 } := C0
  clear C0
  refine v_aload_n C 0 dX12_walked_0 rfl ?_
  refine v_iconst (v := 0) C dX12_walked_1 (by decide) ?_
  refine v_pI C 12 0 0 1060 (hM.2 _ (u_12 0 (by decide))) k_12 ty_12 (by decide) rfl ⟨rfl, rfl⟩ x_1242 rfl rfl dX12_walked_2 ?_
  refine v_aload_n C 0 dX12_walked_5 rfl ?_
  refine v_gI C 12 0 65 1125 (w 1125 0 0) (hM.2 _ (u_12 0 (by decide))) k_12 (by decide) rfl rfl x_1307 (by simp only [wS_s, wS_t, wS_a, ne_eq, Nat.reduceEqDiff, not_false_eq_true, L7_1]) dX12_walked_6 ?_
  refine v_if_ne C 14 dX12_walked_9 (by decide) (fun c_9 => ?_) (fun c_9 => ?_)
  · refine v_iload_n C 1 dX12_walked_14 rfl ?_
    refine v_if_ne C 25 dX12_walked_15 (by decide) (fun c_15 => ?_) (fun c_15 => ?_)
    · refine v_iload_n C 1 dX12_walked_25 rfl ?_
      refine v_iconst (v := 1) C dX12_walked_26 (by decide) ?_
      refine v_ic_ne C 37 dX12_walked_27 (by decide) (fun c_27 => ?_) (fun c_27 => ?_)
      · refine v_iconst (v := (-1)) C dX12_walked_37 (by decide) ?_
        exact v_iret C dX12_walked_38 ⟨(by clear C; grind), (congr (congrArg Prod.mk rfl) rfl)⟩
      · refine v_aload_n C 0 dX12_walked_30 rfl ?_
        refine v_gI C 12 0 64 1124 (w 1124 0 0) (hM.2 _ (u_12 0 (by decide))) k_12 (by decide) rfl rfl x_1306 (by simp only [wS_s, wS_t, wS_a, ne_eq, Nat.reduceEqDiff, not_false_eq_true, L7_1]) dX12_walked_31 ?_
        refine v_goto C 38 dX12_walked_34 (by decide) ?_
        exact v_iret C dX12_walked_38 ⟨(by clear C; grind), (congr (congrArg Prod.mk rfl) rfl)⟩
    · refine v_aload_n C 0 dX12_walked_18 rfl ?_
      refine v_gI C 12 0 63 1123 (w 1123 0 0) (hM.2 _ (u_12 0 (by decide))) k_12 (by decide) rfl rfl x_1305 (by simp only [wS_s, wS_t, wS_a, ne_eq, Nat.reduceEqDiff, not_false_eq_true, L7_1]) dX12_walked_19 ?_
      refine v_goto C 38 dX12_walked_22 (by decide) ?_
      exact v_iret C dX12_walked_38 ⟨(by clear C; grind), (congr (congrArg Prod.mk rfl) rfl)⟩
  · refine v_iconst (v := (-1)) C dX12_walked_12 (by decide) ?_
    exact v_iret C dX12_walked_13 ⟨(by clear C; grind), (congr (congrArg Prod.mk rfl) rfl)⟩
abbrev P_X12_fitAt (w : Wi) (z : Wj) (k : Int32) : Int32 → WW → Prop := fun r_ u_ => r_ = (if 0 ≤ k ∧ k < (w 1120 0 0) then (w 63 0) (k).toNatClampNeg else (-1)) ∧ u_ = ((wS w 1060 0 (fun _ => 0)), z)
set_option maxHeartbeats 4000000 in
set_option maxRecDepth 100000 in
theorem c_X12_fitAt (E : En) (hM : q_okM E) (w : Wi) (z : Wj) (k : Int32) (h1 : (w 1120 0 0) ≤ 113) : CtI M_X12_fitAt E [.ref (E.ad 12 0), .int k] w z (P_X12_fitAt w z k) := by
  have hE := hM.1
  refine ctI_of (lv := [(0, .ref (E.ad 12 0)), (1, .int k)]) hE m_X12_fitAt (Nat.le_of_ble_eq_true rfl) rfl ?_
  intro K A C0
  have C : Cx K E A cX12_fitAt 2 RX12 (some .int) { frames := 0, cells := 0, slots := 0, locals := 0 } := C0
  clear C0
  refine v_aload_n C 0 dX12_fitAt_0 rfl ?_
  refine v_iconst (v := 0) C dX12_fitAt_1 (by decide) ?_
  refine v_pI C 12 0 0 1060 (hM.2 _ (u_12 0 (by decide))) k_12 ty_12 (by decide) rfl ⟨rfl, rfl⟩ x_1242 rfl rfl dX12_fitAt_2 ?_
  refine v_iload_n C 1 dX12_fitAt_5 rfl ?_
  refine v_if_lt C 26 dX12_fitAt_6 (by decide) (fun c_6 => ?_) (fun c_6 => ?_)
  · refine v_iconst (v := (-1)) C dX12_fitAt_26 (by decide) ?_
    exact v_iret C dX12_fitAt_27 ⟨(by clear C; grind), (congr (congrArg Prod.mk rfl) rfl)⟩
  · refine v_iload_n C 1 dX12_fitAt_9 rfl ?_
    refine v_aload_n C 0 dX12_fitAt_10 rfl ?_
    refine v_gI C 12 0 60 1120 (w 1120 0 0) (hM.2 _ (u_12 0 (by decide))) k_12 (by decide) rfl rfl x_1302 (by simp only [wS_s, wS_t, wS_a, ne_eq, Nat.reduceEqDiff, not_false_eq_true, L7_1]) dX12_fitAt_11 ?_
    refine v_ic_ge C 26 dX12_fitAt_14 (by decide) (fun c_14 => ?_) (fun c_14 => ?_)
    · refine v_iconst (v := (-1)) C dX12_fitAt_26 (by decide) ?_
      exact v_iret C dX12_fitAt_27 ⟨(by clear C; grind), (congr (congrArg Prod.mk rfl) rfl)⟩
    · refine v_aload_n C 0 dX12_fitAt_17 rfl ?_
      refine v_gR C 12 0 57 63 0 (hM.2 _ (u_12 0 (by decide))) k_12 (by decide) x_1299 (fun _ _ _ => rfl) dX12_fitAt_18 ?_
      refine v_iload_n C 1 dX12_fitAt_21 rfl ?_
      refine v_iald C 63 0 (hM.2 _ (u_63 0 (by decide))) ⟨by decide, rfl, rfl⟩ (v_in (N := 113) (by decide) (by clear C; grind) (by clear C; grind)) dX12_fitAt_22 ?_
      refine v_i (y := ((w 63 0) k.toNatClampNeg)) (by simp only [wS_s, wS_t, wS_a, ne_eq, Nat.reduceEqDiff, not_false_eq_true, L7_1]) ?_
      refine v_goto C 27 dX12_fitAt_23 (by decide) ?_
      exact v_iret C dX12_fitAt_27 ⟨(by clear C; grind), (congr (congrArg Prod.mk rfl) rfl)⟩
abbrev P_X12_ordered (w : Wi) (z : Wj) (k : Int32) : Int32 → WW → Prop := fun r_ u_ => r_ = (if 0 ≤ k ∧ k < (w 1112 0 0) then (w 58 0) (k).toNatClampNeg + 1 else (-1)) ∧ u_ = ((wS w 1060 0 (fun _ => 0)), z)
set_option maxHeartbeats 4000000 in
set_option maxRecDepth 100000 in
theorem c_X12_ordered (E : En) (hM : q_okM E) (w : Wi) (z : Wj) (k : Int32) (h1 : (w 1112 0 0) ≤ 6) : CtI M_X12_ordered E [.ref (E.ad 12 0), .int k] w z (P_X12_ordered w z k) := by
  have hE := hM.1
  refine ctI_of (lv := [(0, .ref (E.ad 12 0)), (1, .int k)]) hE m_X12_ordered (Nat.le_of_ble_eq_true rfl) rfl ?_
  intro K A C0
  have C : Cx K E A cX12_ordered 2 RX12 (some .int) { frames := 0, cells := 0, slots := 0, locals := 0 } := C0
  clear C0
  refine v_aload_n C 0 dX12_ordered_0 rfl ?_
  refine v_iconst (v := 0) C dX12_ordered_1 (by decide) ?_
  refine v_pI C 12 0 0 1060 (hM.2 _ (u_12 0 (by decide))) k_12 ty_12 (by decide) rfl ⟨rfl, rfl⟩ x_1242 rfl rfl dX12_ordered_2 ?_
  refine v_iload_n C 1 dX12_ordered_5 rfl ?_
  refine v_if_lt C 28 dX12_ordered_6 (by decide) (fun c_6 => ?_) (fun c_6 => ?_)
  · refine v_iconst (v := (-1)) C dX12_ordered_28 (by decide) ?_
    exact v_iret C dX12_ordered_29 ⟨(by clear C; grind), (congr (congrArg Prod.mk rfl) rfl)⟩
  · refine v_iload_n C 1 dX12_ordered_9 rfl ?_
    refine v_aload_n C 0 dX12_ordered_10 rfl ?_
    refine v_gI C 12 0 52 1112 (w 1112 0 0) (hM.2 _ (u_12 0 (by decide))) k_12 (by decide) rfl rfl x_1294 (by simp only [wS_s, wS_t, wS_a, ne_eq, Nat.reduceEqDiff, not_false_eq_true, L7_1]) dX12_ordered_11 ?_
    refine v_ic_ge C 28 dX12_ordered_14 (by decide) (fun c_14 => ?_) (fun c_14 => ?_)
    · refine v_iconst (v := (-1)) C dX12_ordered_28 (by decide) ?_
      exact v_iret C dX12_ordered_29 ⟨(by clear C; grind), (congr (congrArg Prod.mk rfl) rfl)⟩
    · refine v_aload_n C 0 dX12_ordered_17 rfl ?_
      refine v_gR C 12 0 51 58 0 (hM.2 _ (u_12 0 (by decide))) k_12 (by decide) x_1293 (fun _ _ _ => rfl) dX12_ordered_18 ?_
      refine v_iload_n C 1 dX12_ordered_21 rfl ?_
      refine v_iald C 58 0 (hM.2 _ (u_58 0 (by decide))) ⟨by decide, rfl, rfl⟩ (v_in (N := 6) (by decide) (by clear C; grind) (by clear C; grind)) dX12_ordered_22 ?_
      refine v_i (y := ((w 58 0) k.toNatClampNeg)) (by simp only [wS_s, wS_t, wS_a, ne_eq, Nat.reduceEqDiff, not_false_eq_true, L7_1]) ?_
      refine v_iconst (v := 1) C dX12_ordered_23 (by decide) ?_
      refine v_iadd C dX12_ordered_24 ?_
      refine v_goto C 29 dX12_ordered_25 (by decide) ?_
      exact v_iret C dX12_ordered_29 ⟨(by clear C; grind), (congr (congrArg Prod.mk rfl) rfl)⟩
abbrev P_X12_suspect (w : Wi) (z : Wj) (k : Int32) : Int32 → WW → Prop := fun r_ u_ => r_ = (if 0 ≤ k ∧ k < (w 1131 0 0) then (w 68 0) (k).toNatClampNeg else (-1)) ∧ u_ = ((wS w 1060 0 (fun _ => 0)), z)
set_option maxHeartbeats 4000000 in
set_option maxRecDepth 100000 in
theorem c_X12_suspect (E : En) (hM : q_okM E) (w : Wi) (z : Wj) (k : Int32) (h1 : (w 1131 0 0) ≤ 40) : CtI M_X12_suspect E [.ref (E.ad 12 0), .int k] w z (P_X12_suspect w z k) := by
  have hE := hM.1
  refine ctI_of (lv := [(0, .ref (E.ad 12 0)), (1, .int k)]) hE m_X12_suspect (Nat.le_of_ble_eq_true rfl) rfl ?_
  intro K A C0
  have C : Cx K E A cX12_suspect 2 RX12 (some .int) { frames := 0, cells := 0, slots := 0, locals := 0 } := C0
  clear C0
  refine v_aload_n C 0 dX12_suspect_0 rfl ?_
  refine v_iconst (v := 0) C dX12_suspect_1 (by decide) ?_
  refine v_pI C 12 0 0 1060 (hM.2 _ (u_12 0 (by decide))) k_12 ty_12 (by decide) rfl ⟨rfl, rfl⟩ x_1242 rfl rfl dX12_suspect_2 ?_
  refine v_iload_n C 1 dX12_suspect_5 rfl ?_
  refine v_if_lt C 26 dX12_suspect_6 (by decide) (fun c_6 => ?_) (fun c_6 => ?_)
  · refine v_iconst (v := (-1)) C dX12_suspect_26 (by decide) ?_
    exact v_iret C dX12_suspect_27 ⟨(by clear C; grind), (congr (congrArg Prod.mk rfl) rfl)⟩
  · refine v_iload_n C 1 dX12_suspect_9 rfl ?_
    refine v_aload_n C 0 dX12_suspect_10 rfl ?_
    refine v_gI C 12 0 71 1131 (w 1131 0 0) (hM.2 _ (u_12 0 (by decide))) k_12 (by decide) rfl rfl x_1313 (by simp only [wS_s, wS_t, wS_a, ne_eq, Nat.reduceEqDiff, not_false_eq_true, L7_1]) dX12_suspect_11 ?_
    refine v_ic_ge C 26 dX12_suspect_14 (by decide) (fun c_14 => ?_) (fun c_14 => ?_)
    · refine v_iconst (v := (-1)) C dX12_suspect_26 (by decide) ?_
      exact v_iret C dX12_suspect_27 ⟨(by clear C; grind), (congr (congrArg Prod.mk rfl) rfl)⟩
    · refine v_aload_n C 0 dX12_suspect_17 rfl ?_
      refine v_gR C 12 0 70 68 0 (hM.2 _ (u_12 0 (by decide))) k_12 (by decide) x_1312 (fun _ _ _ => rfl) dX12_suspect_18 ?_
      refine v_iload_n C 1 dX12_suspect_21 rfl ?_
      refine v_iald C 68 0 (hM.2 _ (u_68 0 (by decide))) ⟨by decide, rfl, rfl⟩ (v_in (N := 40) (by decide) (by clear C; grind) (by clear C; grind)) dX12_suspect_22 ?_
      refine v_i (y := ((w 68 0) k.toNatClampNeg)) (by simp only [wS_s, wS_t, wS_a, ne_eq, Nat.reduceEqDiff, not_false_eq_true, L7_1]) ?_
      refine v_goto C 27 dX12_suspect_23 (by decide) ?_
      exact v_iret C dX12_suspect_27 ⟨(by clear C; grind), (congr (congrArg Prod.mk rfl) rfl)⟩
abbrev P_X12_isRun (w : Wi) (z : Wj) (g : Int32) (sp : Int32) (sn : Int32) : Int32 → WW → Prop := fun r_ u_ => r_ = (irF g sp sn) ∧ u_ = (w, z)
set_option maxHeartbeats 4000000 in
set_option maxRecDepth 100000 in
theorem c_X12_isRun (E : En) (hM : q_okM E) (w : Wi) (z : Wj) (g : Int32) (sp : Int32) (sn : Int32) : CtI M_X12_isRun E [.int g, .int sp, .int sn] w z (P_X12_isRun w z g sp sn) := by
  have hE := hM.1
  refine ctI_of (lv := [(0, .int g), (1, .int sp), (2, .int sn)]) hE m_X12_isRun (Nat.le_of_ble_eq_true rfl) rfl ?_
  intro K A C0
  have C : Cx K E A cX12_isRun 3 RX12 (some .boolean) { frames := 1, cells := 0, slots := 0, locals := 22 } := C0
  clear C0
  refine v_iload_n C 0 dX12_isRun_0 rfl ?_
  refine v_bipush (v := (-40)) C dX12_isRun_1 (by decide) ?_
  refine v_bipush (v := 40) C dX12_isRun_3 (by decide) ?_
  refine v_sI C [.int g, .int (-40), .int 40] 3 (c_X12_isIn E hM _ _  g (-40) 40  ) m_X12_isIn x_1530 x_1531 p_X12_isIn rfl ⟨Nat.le_of_ble_eq_true rfl, Nat.le_of_ble_eq_true rfl⟩ rfl (Nat.le_of_ble_eq_true rfl) dX12_isRun_5 (fun r1 u1 v1 hp1 => ?_)
  obtain ⟨hr1, hu1⟩ := hp1
  subst hr1
  cases hu1
  refine v_if_eq C 36 dX12_isRun_8 (by decide) (fun c_8 => ?_) (fun c_8 => ?_)
  · refine v_iconst (v := 0) C dX12_isRun_36 (by decide) ?_
    exact v_zret C dX12_isRun_37 (by decide) ⟨(by clear C; simp only [irF]; first | rw [if_pos (by grind)] | rw [if_neg (by grind)]), (congr (congrArg Prod.mk rfl) rfl)⟩
  · refine v_iload_n C 1 dX12_isRun_11 rfl ?_
    refine v_iconst (v := 0) C dX12_isRun_12 (by decide) ?_
    refine v_sipush (v := 3000) C dX12_isRun_13 (by decide) ?_
    refine v_sI C [.int sp, .int 0, .int 3000] 3 (c_X12_isIn E hM _ _  sp 0 3000  ) m_X12_isIn x_1530 x_1531 p_X12_isIn rfl ⟨Nat.le_of_ble_eq_true rfl, Nat.le_of_ble_eq_true rfl⟩ rfl (Nat.le_of_ble_eq_true rfl) dX12_isRun_16 (fun r2 u2 v2 hp2 => ?_)
    obtain ⟨hr2, hu2⟩ := hp2
    subst hr2
    cases hu2
    refine v_if_eq C 36 dX12_isRun_19 (by decide) (fun c_19 => ?_) (fun c_19 => ?_)
    · refine v_iconst (v := 0) C dX12_isRun_36 (by decide) ?_
      exact v_zret C dX12_isRun_37 (by decide) ⟨(by clear C; simp only [irF]; first | rw [if_pos (by grind)] | rw [if_neg (by grind)]), (congr (congrArg Prod.mk rfl) rfl)⟩
    · refine v_iload_n C 2 dX12_isRun_22 rfl ?_
      refine v_iconst (v := 0) C dX12_isRun_23 (by decide) ?_
      refine v_bipush (v := 90) C dX12_isRun_24 (by decide) ?_
      refine v_sI C [.int sn, .int 0, .int 90] 3 (c_X12_isIn E hM _ _  sn 0 90  ) m_X12_isIn x_1530 x_1531 p_X12_isIn rfl ⟨Nat.le_of_ble_eq_true rfl, Nat.le_of_ble_eq_true rfl⟩ rfl (Nat.le_of_ble_eq_true rfl) dX12_isRun_26 (fun r3 u3 v3 hp3 => ?_)
      obtain ⟨hr3, hu3⟩ := hp3
      subst hr3
      cases hu3
      refine v_if_eq C 36 dX12_isRun_29 (by decide) (fun c_29 => ?_) (fun c_29 => ?_)
      · refine v_iconst (v := 0) C dX12_isRun_36 (by decide) ?_
        exact v_zret C dX12_isRun_37 (by decide) ⟨(by clear C; simp only [irF]; first | rw [if_pos (by grind)] | rw [if_neg (by grind)]), (congr (congrArg Prod.mk rfl) rfl)⟩
      · refine v_iconst (v := 1) C dX12_isRun_32 (by decide) ?_
        refine v_goto C 37 dX12_isRun_33 (by decide) ?_
        exact v_zret C dX12_isRun_37 (by decide) ⟨(by clear C; simp only [irF]; first | rw [if_pos (by grind)] | rw [if_neg (by grind)]), (congr (congrArg Prod.mk rfl) rfl)⟩
abbrev P_X12_isWithin (w : Wi) (z : Wj) (s : Int32) (m : Int32) : Int32 → WW → Prop := fun r_ u_ => r_ = (if s ≠ (-1) ∧ s ≤ m then 1 else 0) ∧ u_ = (w, z)
set_option maxHeartbeats 4000000 in
set_option maxRecDepth 100000 in
theorem c_X12_isWithin (E : En) (hM : q_okM E) (w : Wi) (z : Wj) (s : Int32) (m : Int32) : CtI M_X12_isWithin E [.int s, .int m] w z (P_X12_isWithin w z s m) := by
  have hE := hM.1
  refine ctI_of (lv := [(0, .int s), (1, .int m)]) hE m_X12_isWithin (Nat.le_of_ble_eq_true rfl) rfl ?_
  intro K A C0
  have C : Cx K E A cX12_isWithin 2 RX12 (some .boolean) { frames := 0, cells := 0, slots := 0, locals := 0 } := C0
  clear C0
  refine v_iload_n C 0 dX12_isWithin_0 rfl ?_
  refine v_iconst (v := (-1)) C dX12_isWithin_1 (by decide) ?_
  refine v_ic_eq C 14 dX12_isWithin_2 (by decide) (fun c_2 => ?_) (fun c_2 => ?_)
  · refine v_iconst (v := 0) C dX12_isWithin_14 (by decide) ?_
    exact v_zret C dX12_isWithin_15 (by decide) ⟨(by clear C; grind), (congr (congrArg Prod.mk rfl) rfl)⟩
  · refine v_iload_n C 0 dX12_isWithin_5 rfl ?_
    refine v_iload_n C 1 dX12_isWithin_6 rfl ?_
    refine v_ic_gt C 14 dX12_isWithin_7 (by decide) (fun c_7 => ?_) (fun c_7 => ?_)
    · refine v_iconst (v := 0) C dX12_isWithin_14 (by decide) ?_
      exact v_zret C dX12_isWithin_15 (by decide) ⟨(by clear C; grind), (congr (congrArg Prod.mk rfl) rfl)⟩
    · refine v_iconst (v := 1) C dX12_isWithin_10 (by decide) ?_
      refine v_goto C 15 dX12_isWithin_11 (by decide) ?_
      exact v_zret C dX12_isWithin_15 (by decide) ⟨(by clear C; grind), (congr (congrArg Prod.mk rfl) rfl)⟩
abbrev P_X12_isNear (w : Wi) (z : Wj) (a : Int32) (b : Int32) (o : Int32) : Int32 → WW → Prop := fun r_ u_ => r_ = (if a - b ≤ o ∧ b - a ≤ o then 1 else 0) ∧ u_ = (w, z)
set_option maxHeartbeats 4000000 in
set_option maxRecDepth 100000 in
theorem c_X12_isNear (E : En) (hM : q_okM E) (w : Wi) (z : Wj) (a : Int32) (b : Int32) (o : Int32) : CtI M_X12_isNear E [.int a, .int b, .int o] w z (P_X12_isNear w z a b o) := by
  have hE := hM.1
  refine ctI_of (lv := [(0, .int a), (1, .int b), (2, .int o)]) hE m_X12_isNear (Nat.le_of_ble_eq_true rfl) rfl ?_
  intro K A C0
  have C : Cx K E A cX12_isNear 3 RX12 (some .boolean) { frames := 0, cells := 0, slots := 0, locals := 0 } := C0
  clear C0
  refine v_iload_n C 0 dX12_isNear_0 rfl ?_
  refine v_iload_n C 1 dX12_isNear_1 rfl ?_
  refine v_isub C dX12_isNear_2 ?_
  refine v_iload_n C 2 dX12_isNear_3 rfl ?_
  refine v_ic_gt C 18 dX12_isNear_4 (by decide) (fun c_4 => ?_) (fun c_4 => ?_)
  · refine v_iconst (v := 0) C dX12_isNear_18 (by decide) ?_
    exact v_zret C dX12_isNear_19 (by decide) ⟨(by clear C; grind), (congr (congrArg Prod.mk rfl) rfl)⟩
  · refine v_iload_n C 1 dX12_isNear_7 rfl ?_
    refine v_iload_n C 0 dX12_isNear_8 rfl ?_
    refine v_isub C dX12_isNear_9 ?_
    refine v_iload_n C 2 dX12_isNear_10 rfl ?_
    refine v_ic_gt C 18 dX12_isNear_11 (by decide) (fun c_11 => ?_) (fun c_11 => ?_)
    · refine v_iconst (v := 0) C dX12_isNear_18 (by decide) ?_
      exact v_zret C dX12_isNear_19 (by decide) ⟨(by clear C; grind), (congr (congrArg Prod.mk rfl) rfl)⟩
    · refine v_iconst (v := 1) C dX12_isNear_14 (by decide) ?_
      refine v_goto C 19 dX12_isNear_15 (by decide) ?_
      exact v_zret C dX12_isNear_19 (by decide) ⟨(by clear C; grind), (congr (congrArg Prod.mk rfl) rfl)⟩
abbrev P_X12_two (w : Wi) (z : Wj) (p : Int32) : Int32 → WW → Prop := fun r_ u_ => r_ = (256 * (w 41 0) (p).toNatClampNeg + (w 41 0) (p + 1).toNatClampNeg) ∧ u_ = (w, z)
set_option maxHeartbeats 4000000 in
set_option maxRecDepth 100000 in
theorem c_X12_two (E : En) (hM : q_okM E) (w : Wi) (z : Wj) (p : Int32) (h1 : 0 ≤ p) (h2 : p < 739) : CtI M_X12_two E [.ref (E.ad 12 0), .int p] w z (P_X12_two w z p) := by
  have hE := hM.1
  refine ctI_of (lv := [(0, .ref (E.ad 12 0)), (1, .int p)]) hE m_X12_two (Nat.le_of_ble_eq_true rfl) rfl ?_
  intro K A C0
  have C : Cx K E A cX12_two 2 RX12 (some .int) { frames := 0, cells := 0, slots := 0, locals := 0 } := C0
  clear C0
  refine v_sipush (v := 256) C dX12_two_0 (by decide) ?_
  refine v_aload_n C 0 dX12_two_3 rfl ?_
  refine v_gR C 12 0 1 41 0 (hM.2 _ (u_12 0 (by decide))) k_12 (by decide) x_1243 (fun _ _ _ => rfl) dX12_two_4 ?_
  refine v_iload_n C 1 dX12_two_7 rfl ?_
  refine v_iald C 41 0 (hM.2 _ (u_41 0 (by decide))) ⟨by decide, rfl, rfl⟩ (v_in (N := 740) (by decide) (by clear C; grind) (by clear C; grind)) dX12_two_8 ?_
  refine v_imul C dX12_two_9 ?_
  refine v_aload_n C 0 dX12_two_10 rfl ?_
  refine v_gR C 12 0 1 41 0 (hM.2 _ (u_12 0 (by decide))) k_12 (by decide) x_1243 (fun _ _ _ => rfl) dX12_two_11 ?_
  refine v_iload_n C 1 dX12_two_14 rfl ?_
  refine v_iconst (v := 1) C dX12_two_15 (by decide) ?_
  refine v_iadd C dX12_two_16 ?_
  refine v_iald C 41 0 (hM.2 _ (u_41 0 (by decide))) ⟨by decide, rfl, rfl⟩ (v_in (N := 740) (by decide) (by clear C; grind) (by clear C; grind)) dX12_two_17 ?_
  refine v_iadd C dX12_two_18 ?_
  exact v_iret C dX12_two_19 ⟨(by clear C; grind), (congr (congrArg Prod.mk rfl) rfl)⟩
abbrev P_X12_sense (w : Wi) (z : Wj) (s : Int32) : Int32 → WW → Prop := fun r_ u_ => r_ = (if s = 0 then 20 else if s = 1 then 10 else 30) ∧ u_ = (w, z)
set_option maxHeartbeats 4000000 in
set_option maxRecDepth 100000 in
theorem c_X12_sense (E : En) (hM : q_okM E) (w : Wi) (z : Wj) (s : Int32) : CtI M_X12_sense E [.int s] w z (P_X12_sense w z s) := by
  have hE := hM.1
  refine ctI_of (lv := [(0, .int s)]) hE m_X12_sense (Nat.le_of_ble_eq_true rfl) rfl ?_
  intro K A C0
  have C : Cx K E A cX12_sense 1 RX12 (some .int) { frames := 0, cells := 0, slots := 0, locals := 0 } := C0
  clear C0
  refine v_iload_n C 0 dX12_sense_0 rfl ?_
  refine v_if_ne C 9 dX12_sense_1 (by decide) (fun c_1 => ?_) (fun c_1 => ?_)
  · refine v_iload_n C 0 dX12_sense_9 rfl ?_
    refine v_iconst (v := 1) C dX12_sense_10 (by decide) ?_
    refine v_ic_ne C 19 dX12_sense_11 (by decide) (fun c_11 => ?_) (fun c_11 => ?_)
    · refine v_bipush (v := 30) C dX12_sense_19 (by decide) ?_
      exact v_iret C dX12_sense_21 ⟨(by clear C; grind), (congr (congrArg Prod.mk rfl) rfl)⟩
    · refine v_bipush (v := 10) C dX12_sense_14 (by decide) ?_
      refine v_goto C 21 dX12_sense_16 (by decide) ?_
      exact v_iret C dX12_sense_21 ⟨(by clear C; grind), (congr (congrArg Prod.mk rfl) rfl)⟩
  · refine v_bipush (v := 20) C dX12_sense_4 (by decide) ?_
    refine v_goto C 21 dX12_sense_6 (by decide) ?_
    exact v_iret C dX12_sense_21 ⟨(by clear C; grind), (congr (congrArg Prod.mk rfl) rfl)⟩
abbrev P_X12_rate (w : Wi) (z : Wj) (s : Int32) : Int32 → WW → Prop := fun r_ u_ => r_ = (if s = 0 then 20 else if s = 1 then 30 else 12) ∧ u_ = (w, z)
set_option maxHeartbeats 4000000 in
set_option maxRecDepth 100000 in
theorem c_X12_rate (E : En) (hM : q_okM E) (w : Wi) (z : Wj) (s : Int32) : CtI M_X12_rate E [.int s] w z (P_X12_rate w z s) := by
  have hE := hM.1
  refine ctI_of (lv := [(0, .int s)]) hE m_X12_rate (Nat.le_of_ble_eq_true rfl) rfl ?_
  intro K A C0
  have C : Cx K E A cX12_rate 1 RX12 (some .int) { frames := 0, cells := 0, slots := 0, locals := 0 } := C0
  clear C0
  refine v_iload_n C 0 dX12_rate_0 rfl ?_
  refine v_if_ne C 9 dX12_rate_1 (by decide) (fun c_1 => ?_) (fun c_1 => ?_)
  · refine v_iload_n C 0 dX12_rate_9 rfl ?_
    refine v_iconst (v := 1) C dX12_rate_10 (by decide) ?_
    refine v_ic_ne C 19 dX12_rate_11 (by decide) (fun c_11 => ?_) (fun c_11 => ?_)
    · refine v_bipush (v := 12) C dX12_rate_19 (by decide) ?_
      exact v_iret C dX12_rate_21 ⟨(by clear C; grind), (congr (congrArg Prod.mk rfl) rfl)⟩
    · refine v_bipush (v := 30) C dX12_rate_14 (by decide) ?_
      refine v_goto C 21 dX12_rate_16 (by decide) ?_
      exact v_iret C dX12_rate_21 ⟨(by clear C; grind), (congr (congrArg Prod.mk rfl) rfl)⟩
  · refine v_bipush (v := 20) C dX12_rate_4 (by decide) ?_
    refine v_goto C 21 dX12_rate_6 (by decide) ?_
    exact v_iret C dX12_rate_21 ⟨(by clear C; grind), (congr (congrArg Prod.mk rfl) rfl)⟩
abbrev P_X12_ease (w : Wi) (z : Wj) (s : Int32) : Int32 → WW → Prop := fun r_ u_ => r_ = (if s = 0 then 30 else if s = 1 then 40 else 12) ∧ u_ = (w, z)
set_option maxHeartbeats 4000000 in
set_option maxRecDepth 100000 in
theorem c_X12_ease (E : En) (hM : q_okM E) (w : Wi) (z : Wj) (s : Int32) : CtI M_X12_ease E [.int s] w z (P_X12_ease w z s) := by
  have hE := hM.1
  refine ctI_of (lv := [(0, .int s)]) hE m_X12_ease (Nat.le_of_ble_eq_true rfl) rfl ?_
  intro K A C0
  have C : Cx K E A cX12_ease 1 RX12 (some .int) { frames := 0, cells := 0, slots := 0, locals := 0 } := C0
  clear C0
  refine v_iload_n C 0 dX12_ease_0 rfl ?_
  refine v_if_ne C 9 dX12_ease_1 (by decide) (fun c_1 => ?_) (fun c_1 => ?_)
  · refine v_iload_n C 0 dX12_ease_9 rfl ?_
    refine v_iconst (v := 1) C dX12_ease_10 (by decide) ?_
    refine v_ic_ne C 19 dX12_ease_11 (by decide) (fun c_11 => ?_) (fun c_11 => ?_)
    · refine v_bipush (v := 12) C dX12_ease_19 (by decide) ?_
      exact v_iret C dX12_ease_21 ⟨(by clear C; grind), (congr (congrArg Prod.mk rfl) rfl)⟩
    · refine v_bipush (v := 40) C dX12_ease_14 (by decide) ?_
      refine v_goto C 21 dX12_ease_16 (by decide) ?_
      exact v_iret C dX12_ease_21 ⟨(by clear C; grind), (congr (congrArg Prod.mk rfl) rfl)⟩
  · refine v_bipush (v := 30) C dX12_ease_4 (by decide) ?_
    refine v_goto C 21 dX12_ease_6 (by decide) ?_
    exact v_iret C dX12_ease_21 ⟨(by clear C; grind), (congr (congrArg Prod.mk rfl) rfl)⟩
abbrev P_X12_exchange (w : Wi) (z : Wj) (a : Int32) (b : Int32) : WW → Prop := fun u_ => u_ = ((wS w 57 0 (swp (w 57 0) (a).toNatClampNeg (b).toNatClampNeg)), z)
set_option maxHeartbeats 4000000 in
set_option maxRecDepth 100000 in
theorem c_X12_exchange (E : En) (hM : q_okM E) (w : Wi) (z : Wj) (a : Int32) (b : Int32) (h1 : 0 ≤ a) (h2 : a < 16) (h3 : 0 ≤ b) (h4 : b < 16) : CtV M_X12_exchange E [.ref (E.ad 12 0), .int a, .int b] w z (P_X12_exchange w z a b) := by
  have hE := hM.1
  refine ctV_of (lv := [(0, .ref (E.ad 12 0)), (1, .int a), (2, .int b)]) hE m_X12_exchange (Nat.le_of_ble_eq_true rfl) rfl ?_
  intro K A C0
  have C : Cx K E A cX12_exchange 4 RX12 none { frames := 0, cells := 0, slots := 0, locals := 0 } := C0
  clear C0
  refine v_aload_n C 0 dX12_exchange_0 rfl ?_
  refine v_gR C 12 0 50 57 0 (hM.2 _ (u_12 0 (by decide))) k_12 (by decide) x_1292 (fun _ _ _ => rfl) dX12_exchange_1 ?_
  refine v_iload_n C 1 dX12_exchange_4 rfl ?_
  refine v_iald C 57 0 (hM.2 _ (u_57 0 (by decide))) ⟨by decide, rfl, rfl⟩ (v_in (N := 16) (by decide) (by clear C; grind) (by clear C; grind)) dX12_exchange_5 ?_
  refine v_istore_n (lv2 := [(3, .int ((w 57 0) a.toNatClampNeg)), (0, .ref (E.ad 12 0)), (1, .int a), (2, .int b)]) C dX12_exchange_6 rfl (by decide) rfl ?_
  refine v_aload_n C 1 dX12_exchange_7 rfl ?_
  refine v_gR C 12 0 50 57 0 (hM.2 _ (u_12 0 (by decide))) k_12 (by decide) x_1292 (fun _ _ _ => rfl) dX12_exchange_8 ?_
  refine v_iload_n C 2 dX12_exchange_11 rfl ?_
  refine v_aload_n C 1 dX12_exchange_12 rfl ?_
  refine v_gR C 12 0 50 57 0 (hM.2 _ (u_12 0 (by decide))) k_12 (by decide) x_1292 (fun _ _ _ => rfl) dX12_exchange_13 ?_
  refine v_iload_n C 3 dX12_exchange_16 rfl ?_
  refine v_iald C 57 0 (hM.2 _ (u_57 0 (by decide))) ⟨by decide, rfl, rfl⟩ (v_in (N := 16) (by decide) (by clear C; grind) (by clear C; grind)) dX12_exchange_17 ?_
  refine v_iast C 57 0 (hM.2 _ (u_57 0 (by decide))) ⟨by decide, rfl, rfl⟩ (v_in (N := 16) (by decide) (by clear C; grind) (by clear C; grind)) dX12_exchange_18 ?_
  refine v_aload_n C 1 dX12_exchange_19 rfl ?_
  refine v_gR C 12 0 50 57 0 (hM.2 _ (u_12 0 (by decide))) k_12 (by decide) x_1292 (fun _ _ _ => rfl) dX12_exchange_20 ?_
  refine v_iload_n C 3 dX12_exchange_23 rfl ?_
  refine v_iload_n C 0 dX12_exchange_24 rfl ?_
  refine v_iast C 57 0 (hM.2 _ (u_57 0 (by decide))) ⟨by decide, rfl, rfl⟩ (v_in (N := 16) (by decide) (by clear C; grind) (by clear C; grind)) dX12_exchange_25 ?_
  refine v_w (w2 := (wS w 57 0 (upd (upd (w 57 0) a.toNatClampNeg ((w 57 0) b.toNatClampNeg)) b.toNatClampNeg ((w 57 0) a.toNatClampNeg)))) (by simp only [wS_s, wS_t, wS_a, ne_eq, Nat.reduceEqDiff, not_false_eq_true, wS_wS, wS_p, wS_pp, Nat.reduceLT, id_eq, L7_1]) ?_
  exact v_vret C dX12_exchange_26 (congr (congrArg Prod.mk (wS_eq rfl (by clear C; rfl))) rfl)
abbrev P_X12_count (w : Wi) (z : Wj) (wh : Int32) : Int32 → WW → Prop := fun r_ u_ => r_ = (if wh = 0 then (w 1074 0 0) else if wh = 1 then (w 1084 0 0) else if wh = 2 then (w 1129 0 0) else if wh = 3 then sumR (w 45 0) ((w 1084 0 0)).toNatClampNeg else if wh = 4 then (w 1062 0 0) else (-1)) ∧ u_ = ((wS w 1060 0 (fun _ => 0)), z)
set_option maxHeartbeats 4000000 in
set_option maxRecDepth 100000 in
theorem c_X12_count (E : En) (hM : q_okM E) (w : Wi) (z : Wj) (wh : Int32) (h1 : 0 ≤ (w 1084 0 0)) (h2 : (w 1084 0 0) ≤ 20) : CtI M_X12_count E [.ref (E.ad 12 0), .int wh] w z (P_X12_count w z wh) := by
  have hE := hM.1
  refine ctI_of (lv := [(0, .ref (E.ad 12 0)), (1, .int wh)]) hE m_X12_count (Nat.le_of_ble_eq_true rfl) rfl ?_
  intro K A C0
  have C : Cx K E A cX12_count 4 RX12 (some .int) { frames := 0, cells := 0, slots := 0, locals := 0 } := C0
  clear C0
  refine v_aload_n C 0 dX12_count_0 rfl ?_
  refine v_iconst (v := 0) C dX12_count_1 (by decide) ?_
  refine v_pI C 12 0 0 1060 (hM.2 _ (u_12 0 (by decide))) k_12 ty_12 (by decide) rfl ⟨rfl, rfl⟩ x_1242 rfl rfl dX12_count_2 ?_
  refine v_iload_n C 1 dX12_count_5 rfl ?_
  by_cases s_6 : (wh).toInt < 0 ∨ 4 < (wh).toInt
  · refine v_tout C 89 dX12_count_6 s_6 (by decide) ?_
    have s_6 := swo (L := 0) (H := 4) s_6 (by decide) (by decide)
    refine v_iconst (v := (-1)) C dX12_count_89 (by decide) ?_
    exact v_iret C dX12_count_90 ⟨(by clear C; grind), (congr (congrArg Prod.mk rfl) rfl)⟩
  · have s_6 := sw_0_4 s_6
    rcases s_6 with s_6 | s_6 | s_6 | s_6 | s_6
    · refine v_i (y := 0) s_6 ?_
      refine v_tin C 34 40 dX12_count_6 (by decide) (by decide) (by decide) (by decide) ?_
      refine v_aload_n C 0 dX12_count_40 rfl ?_
      refine v_gI C 12 0 14 1074 (w 1074 0 0) (hM.2 _ (u_12 0 (by decide))) k_12 (by decide) rfl rfl x_1256 (by simp only [wS_s, wS_t, wS_a, ne_eq, Nat.reduceEqDiff, not_false_eq_true, L7_1]) dX12_count_41 ?_
      exact v_iret C dX12_count_44 ⟨(by clear C; grind), (congr (congrArg Prod.mk rfl) rfl)⟩
    · refine v_i (y := 1) s_6 ?_
      refine v_tin C 39 45 dX12_count_6 (by decide) (by decide) (by decide) (by decide) ?_
      refine v_aload_n C 0 dX12_count_45 rfl ?_
      refine v_gI C 12 0 24 1084 (w 1084 0 0) (hM.2 _ (u_12 0 (by decide))) k_12 (by decide) rfl rfl x_1266 (by simp only [wS_s, wS_t, wS_a, ne_eq, Nat.reduceEqDiff, not_false_eq_true, L7_1]) dX12_count_46 ?_
      exact v_iret C dX12_count_49 ⟨(by clear C; grind), (congr (congrArg Prod.mk rfl) rfl)⟩
    · refine v_i (y := 2) s_6 ?_
      refine v_tin C 44 50 dX12_count_6 (by decide) (by decide) (by decide) (by decide) ?_
      refine v_aload_n C 0 dX12_count_50 rfl ?_
      refine v_gI C 12 0 69 1129 (w 1129 0 0) (hM.2 _ (u_12 0 (by decide))) k_12 (by decide) rfl rfl x_1311 (by simp only [wS_s, wS_t, wS_a, ne_eq, Nat.reduceEqDiff, not_false_eq_true, L7_1]) dX12_count_51 ?_
      exact v_iret C dX12_count_54 ⟨(by clear C; grind), (congr (congrArg Prod.mk rfl) rfl)⟩
    · refine v_i (y := 3) s_6 ?_
      refine v_tin C 49 55 dX12_count_6 (by decide) (by decide) (by decide) (by decide) ?_
      refine v_iconst (v := 0) C dX12_count_55 (by decide) ?_
      refine v_istore_n (lv2 := [(2, .int 0), (0, .ref (E.ad 12 0)), (1, .int wh)]) C dX12_count_56 rfl (by decide) rfl ?_
      refine v_iconst (v := 0) C dX12_count_57 (by decide) ?_
      refine v_istore_n (lv2 := [(3, .int 0), (2, .int 0), (0, .ref (E.ad 12 0)), (1, .int wh)]) C dX12_count_58 rfl (by decide) rfl ?_
      have hL59 : ∀ (n_ : Nat) (t : Int32) (i : Int32), (100 - i).toNatClampNeg < n_ → (0 ≤ i ∧ i ≤ (w 1084 0 0) ∧ t = sumR (w 45 0) i.toNatClampNeg) → V K E A 4 (QI K E A (P_X12_count w z wh)) 59 [(3, .int i), (2, .int t), (0, .ref (E.ad 12 0)), (1, .int wh)] [] (wS w 1060 0 (fun _ => 0)) z := by
        intro n_
        induction n_ with
        | zero => intro t i hm_; exact absurd hm_ (Nat.not_lt_zero _)
        | succ n_ ih_59 =>
          intro t i hm_ hinv
          obtain ⟨g1, g2, g3⟩ := hinv
          refine v_iload_n C 0 dX12_count_59 rfl ?_
          refine v_aload_n C 2 dX12_count_60 rfl ?_
          refine v_gI C 12 0 24 1084 (w 1084 0 0) (hM.2 _ (u_12 0 (by decide))) k_12 (by decide) rfl rfl x_1266 (by simp only [wS_s, wS_t, wS_a, ne_eq, Nat.reduceEqDiff, not_false_eq_true, L7_1]) dX12_count_61 ?_
          refine v_ic_ge C 82 dX12_count_64 (by decide) (fun c_64 => ?_) (fun c_64 => ?_)
          · refine v_iload_n C 1 dX12_count_82 rfl ?_
            exact v_iret C dX12_count_83 ⟨(by clear C ih_59; rw [if_neg (by grind), if_neg (by grind), if_neg (by grind), if_pos (by grind), show (w 1084 0 0) = i by grind]; exact g3), (congr (congrArg Prod.mk rfl) rfl)⟩
          · refine v_iload_n C 1 dX12_count_67 rfl ?_
            refine v_aload_n C 2 dX12_count_68 rfl ?_
            refine v_gR C 12 0 23 45 0 (hM.2 _ (u_12 0 (by decide))) k_12 (by decide) x_1265 (fun _ _ _ => rfl) dX12_count_69 ?_
            refine v_iload_n C 0 dX12_count_72 rfl ?_
            refine v_iald C 45 0 (hM.2 _ (u_45 0 (by decide))) ⟨by decide, rfl, rfl⟩ (v_in (N := 40) (by decide) (by clear C ih_59; grind) (by clear C ih_59; grind)) dX12_count_73 ?_
            refine v_i (y := ((w 45 0) i.toNatClampNeg)) (by simp only [wS_s, wS_t, wS_a, ne_eq, Nat.reduceEqDiff, not_false_eq_true, L7_1]) ?_
            refine v_iadd C dX12_count_74 ?_
            refine v_istore_n (lv2 := [(2, .int (t + ((w 45 0) i.toNatClampNeg))), (3, .int i), (0, .ref (E.ad 12 0)), (1, .int wh)]) C dX12_count_75 rfl (by decide) rfl ?_
            refine v_iinc (v := i + 1) (lv2 := [(3, .int (i + 1)), (2, .int (t + ((w 45 0) i.toNatClampNeg))), (0, .ref (E.ad 12 0)), (1, .int wh)]) C 1 dX12_count_76 rfl rfl (by decide) rfl ?_
            refine v_goto C 59 dX12_count_79 (by decide) ?_
            exact ih_59 (t + ((w 45 0) i.toNatClampNeg)) (i + 1) (by clear C ih_59; exact Nat.lt_of_lt_of_le (m_up (by grind) (by grind)) (Nat.le_of_lt_succ hm_)) (by clear C ih_59; exact ⟨by grind, by grind, by rw [cl_succ g1 (by grind), g3]; rfl⟩)
      exact hL59 _ 0 0 (Nat.lt_succ_self _) (by clear C hL59; exact ⟨by decide, h1, rfl⟩)
    · refine v_i (y := 4) s_6 ?_
      refine v_tin C 78 84 dX12_count_6 (by decide) (by decide) (by decide) (by decide) ?_
      refine v_aload_n C 0 dX12_count_84 rfl ?_
      refine v_gI C 12 0 2 1062 (w 1062 0 0) (hM.2 _ (u_12 0 (by decide))) k_12 (by decide) rfl rfl x_1244 (by simp only [wS_s, wS_t, wS_a, ne_eq, Nat.reduceEqDiff, not_false_eq_true, L7_1]) dX12_count_85 ?_
      exact v_iret C dX12_count_88 ⟨(by clear C; grind), (congr (congrArg Prod.mk rfl) rfl)⟩
