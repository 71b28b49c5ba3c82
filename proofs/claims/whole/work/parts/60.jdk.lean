theorem shr_0 (x : Int32) : x >>> (0 : Int32) = x := by
  apply Int32.toBitVec_inj.mp
  simp
theorem vp_x {x : Int32} {n : Nat} (h : 0 ≤ x) (hk : x.toNatClampNeg < n) (hn : n < 2 ^ 31) : vp_in x n := by
  have := vp_in_nI hk hn
  rwa [nI_cl h] at this
theorem lit_ok : ∀ i, i < 20 → lenS.getD i 0 < 1000 ∧ ∀ k, k < lenS.getD i 0 → ((litS.getD i []).getD k 0 &&& 255 = (litS.getD i []).getD k 0 ∧ (((litS.getD i []).getD k 0).toUInt32 % 65536).toInt32 = (litS.getD i []).getD k 0 ∧ narrow .char (.int ((litS.getD i []).getD k 0)) = .int ((litS.getD i []).getD k 0)) := by decide +kernel
abbrev ccJ3_checkIndex_8e157 : ByteArray := prog_30_method_11_code
def M_J3_checkIndex_8e157 : Md := (⟨"jdk/internal/util/Preconditions", "checkIndex", "(IILjava/util/function/BiFunction;)I"⟩, prog_30_method_11_code, 3, (some .int), { frames := 0, cells := 0, slots := 0, locals := 0 })
theorem m_J3_checkIndex_8e157 : M_J3_checkIndex_8e157.ok := ⟨by decide, by decide, by decide, x_88, x_635, rfl, rfl⟩
theorem DJ3_checkIndex_8e157 : decs ccJ3_checkIndex_8e157 [(0, .iload_n 0, 1), (1, .ifCond .lt 8, 3), (4, .iload_n 0, 1), (5, .iload_n 1, 1), (6, .if_icmp .lt 10, 3), (9, .aload_n 2, 1), (10, .iload_n 0, 1), (11, .iload_n 1, 1), (12, .invokestatic 95, 3), (15, .athrow, 1), (16, .iload_n 0, 1), (17, .ireturn, 1)] := by unfold decs; decide +kernel
theorem dJ3_checkIndex_8e157_0 : decode ccJ3_checkIndex_8e157 0 = .ok (.iload_n 0, 1) := decs_at DJ3_checkIndex_8e157 0 rfl
theorem dJ3_checkIndex_8e157_1 : decode ccJ3_checkIndex_8e157 1 = .ok (.ifCond .lt 8, 3) := decs_at DJ3_checkIndex_8e157 1 rfl
theorem dJ3_checkIndex_8e157_4 : decode ccJ3_checkIndex_8e157 4 = .ok (.iload_n 0, 1) := decs_at DJ3_checkIndex_8e157 2 rfl
theorem dJ3_checkIndex_8e157_5 : decode ccJ3_checkIndex_8e157 5 = .ok (.iload_n 1, 1) := decs_at DJ3_checkIndex_8e157 3 rfl
theorem dJ3_checkIndex_8e157_6 : decode ccJ3_checkIndex_8e157 6 = .ok (.if_icmp .lt 10, 3) := decs_at DJ3_checkIndex_8e157 4 rfl
theorem dJ3_checkIndex_8e157_9 : decode ccJ3_checkIndex_8e157 9 = .ok (.aload_n 2, 1) := decs_at DJ3_checkIndex_8e157 5 rfl
theorem dJ3_checkIndex_8e157_10 : decode ccJ3_checkIndex_8e157 10 = .ok (.iload_n 0, 1) := decs_at DJ3_checkIndex_8e157 6 rfl
theorem dJ3_checkIndex_8e157_11 : decode ccJ3_checkIndex_8e157 11 = .ok (.iload_n 1, 1) := decs_at DJ3_checkIndex_8e157 7 rfl
theorem dJ3_checkIndex_8e157_12 : decode ccJ3_checkIndex_8e157 12 = .ok (.invokestatic 95, 3) := decs_at DJ3_checkIndex_8e157 8 rfl
theorem dJ3_checkIndex_8e157_15 : decode ccJ3_checkIndex_8e157 15 = .ok (.athrow, 1) := decs_at DJ3_checkIndex_8e157 9 rfl
theorem dJ3_checkIndex_8e157_16 : decode ccJ3_checkIndex_8e157 16 = .ok (.iload_n 0, 1) := decs_at DJ3_checkIndex_8e157 10 rfl
theorem dJ3_checkIndex_8e157_17 : decode ccJ3_checkIndex_8e157 17 = .ok (.ireturn, 1) := decs_at DJ3_checkIndex_8e157 11 rfl
abbrev ccJ0_checkIndex_df160 : ByteArray := prog_22_method_155_code
def M_J0_checkIndex_df160 : Md := (⟨"java/lang/String", "checkIndex", "(II)V"⟩, prog_22_method_155_code, 2, none, { frames := 1, cells := 0, slots := 0, locals := 22 })
theorem m_J0_checkIndex_df160 : M_J0_checkIndex_df160.ok := ⟨by decide, by decide, by decide, x_86, x_630, rfl, rfl⟩
theorem DJ0_checkIndex_df160 : decs ccJ0_checkIndex_df160 [(0, .iload_n 0, 1), (1, .iload_n 1, 1), (2, .getstatic 1053, 3), (5, .invokestatic 1059, 3), (8, .pop, 1), (9, .return_, 1)] := by unfold decs; decide +kernel
theorem dJ0_checkIndex_df160_0 : decode ccJ0_checkIndex_df160 0 = .ok (.iload_n 0, 1) := decs_at DJ0_checkIndex_df160 0 rfl
theorem dJ0_checkIndex_df160_1 : decode ccJ0_checkIndex_df160 1 = .ok (.iload_n 1, 1) := decs_at DJ0_checkIndex_df160 1 rfl
theorem dJ0_checkIndex_df160_2 : decode ccJ0_checkIndex_df160 2 = .ok (.getstatic 1053, 3) := decs_at DJ0_checkIndex_df160 2 rfl
theorem dJ0_checkIndex_df160_5 : decode ccJ0_checkIndex_df160 5 = .ok (.invokestatic 1059, 3) := decs_at DJ0_checkIndex_df160 3 rfl
theorem dJ0_checkIndex_df160_8 : decode ccJ0_checkIndex_df160 8 = .ok (.pop, 1) := decs_at DJ0_checkIndex_df160 4 rfl
theorem dJ0_checkIndex_df160_9 : decode ccJ0_checkIndex_df160 9 = .ok (.return_, 1) := decs_at DJ0_checkIndex_df160 5 rfl
abbrev ccJ1_charAt_3b067 : ByteArray := prog_23_method_2_code
set_option maxRecDepth 100000 in
theorem x_627 : Cond.code ⟨"java/lang/StringLatin1", "charAt", "([BI)C"⟩ prog_23_method_2_code 2 (some .char) ∈ gtb := mem_g 627 (by rfl) (by decide +kernel)
def M_J1_charAt_3b067 : Md := (⟨"java/lang/StringLatin1", "charAt", "([BI)C"⟩, prog_23_method_2_code, 2, (some .char), { frames := 2, cells := 0, slots := 0, locals := 43 })
theorem m_J1_charAt_3b067 : M_J1_charAt_3b067.ok := ⟨by decide, by decide, by decide, x_87, x_627, rfl, rfl⟩
theorem DJ1_charAt_3b067 : decs ccJ1_charAt_3b067 [(0, .iload_n 1, 1), (1, .aload_n 0, 1), (2, .arraylength, 1), (3, .invokestatic 9, 3), (6, .aload_n 0, 1), (7, .iload_n 1, 1), (8, .baload, 1), (9, .sipush 255, 3), (12, .iand, 1), (13, .i2c, 1), (14, .ireturn, 1)] := by unfold decs; decide +kernel
theorem dJ1_charAt_3b067_0 : decode ccJ1_charAt_3b067 0 = .ok (.iload_n 1, 1) := decs_at DJ1_charAt_3b067 0 rfl
theorem dJ1_charAt_3b067_1 : decode ccJ1_charAt_3b067 1 = .ok (.aload_n 0, 1) := decs_at DJ1_charAt_3b067 1 rfl
theorem dJ1_charAt_3b067_2 : decode ccJ1_charAt_3b067 2 = .ok (.arraylength, 1) := decs_at DJ1_charAt_3b067 2 rfl
theorem dJ1_charAt_3b067_3 : decode ccJ1_charAt_3b067 3 = .ok (.invokestatic 9, 3) := decs_at DJ1_charAt_3b067 3 rfl
theorem dJ1_charAt_3b067_6 : decode ccJ1_charAt_3b067 6 = .ok (.aload_n 0, 1) := decs_at DJ1_charAt_3b067 4 rfl
theorem dJ1_charAt_3b067_7 : decode ccJ1_charAt_3b067 7 = .ok (.iload_n 1, 1) := decs_at DJ1_charAt_3b067 5 rfl
theorem dJ1_charAt_3b067_8 : decode ccJ1_charAt_3b067 8 = .ok (.baload, 1) := decs_at DJ1_charAt_3b067 6 rfl
theorem dJ1_charAt_3b067_9 : decode ccJ1_charAt_3b067 9 = .ok (.sipush 255, 3) := decs_at DJ1_charAt_3b067 7 rfl
theorem dJ1_charAt_3b067_12 : decode ccJ1_charAt_3b067 12 = .ok (.iand, 1) := decs_at DJ1_charAt_3b067 8 rfl
theorem dJ1_charAt_3b067_13 : decode ccJ1_charAt_3b067 13 = .ok (.i2c, 1) := decs_at DJ1_charAt_3b067 9 rfl
theorem dJ1_charAt_3b067_14 : decode ccJ1_charAt_3b067 14 = .ok (.ireturn, 1) := decs_at DJ1_charAt_3b067 10 rfl
abbrev ccJ0_isLatin1_aae02 : ByteArray := prog_22_method_154_code
def M_J0_isLatin1_aae02 : Md := (⟨"java/lang/String", "isLatin1", "()Z"⟩, prog_22_method_154_code, 1, (some .boolean), { frames := 0, cells := 0, slots := 0, locals := 0 })
theorem m_J0_isLatin1_aae02 : M_J0_isLatin1_aae02.ok := ⟨by decide, by decide, by decide, x_86, x_624, rfl, rfl⟩
theorem DJ0_isLatin1_aae02 : decs ccJ0_isLatin1_aae02 [(0, .getstatic 38, 3), (3, .ifCond .eq 14, 3), (6, .aload_n 0, 1), (7, .getfield 15, 3), (10, .ifCond .ne 7, 3), (13, .iconst 1, 1), (14, .goto 4, 3), (17, .iconst 0, 1), (18, .ireturn, 1)] := by unfold decs; decide +kernel
theorem dJ0_isLatin1_aae02_0 : decode ccJ0_isLatin1_aae02 0 = .ok (.getstatic 38, 3) := decs_at DJ0_isLatin1_aae02 0 rfl
theorem dJ0_isLatin1_aae02_3 : decode ccJ0_isLatin1_aae02 3 = .ok (.ifCond .eq 14, 3) := decs_at DJ0_isLatin1_aae02 1 rfl
theorem dJ0_isLatin1_aae02_6 : decode ccJ0_isLatin1_aae02 6 = .ok (.aload_n 0, 1) := decs_at DJ0_isLatin1_aae02 2 rfl
theorem dJ0_isLatin1_aae02_7 : decode ccJ0_isLatin1_aae02 7 = .ok (.getfield 15, 3) := decs_at DJ0_isLatin1_aae02 3 rfl
theorem dJ0_isLatin1_aae02_10 : decode ccJ0_isLatin1_aae02 10 = .ok (.ifCond .ne 7, 3) := decs_at DJ0_isLatin1_aae02 4 rfl
theorem dJ0_isLatin1_aae02_13 : decode ccJ0_isLatin1_aae02 13 = .ok (.iconst 1, 1) := decs_at DJ0_isLatin1_aae02 5 rfl
theorem dJ0_isLatin1_aae02_14 : decode ccJ0_isLatin1_aae02 14 = .ok (.goto 4, 3) := decs_at DJ0_isLatin1_aae02 6 rfl
theorem dJ0_isLatin1_aae02_17 : decode ccJ0_isLatin1_aae02 17 = .ok (.iconst 0, 1) := decs_at DJ0_isLatin1_aae02 7 rfl
theorem dJ0_isLatin1_aae02_18 : decode ccJ0_isLatin1_aae02 18 = .ok (.ireturn, 1) := decs_at DJ0_isLatin1_aae02 8 rfl
abbrev ccJ0_charAt_5068e : ByteArray := prog_22_method_56_code
set_option maxRecDepth 100000 in
theorem x_620 : Cond.code ⟨"java/lang/String", "charAt", "(I)C"⟩ prog_22_method_56_code 2 (some .char) ∈ gtb := mem_g 620 (by rfl) (by decide +kernel)
def M_J0_charAt_5068e : Md := (⟨"java/lang/String", "charAt", "(I)C"⟩, prog_22_method_56_code, 2, (some .char), { frames := 3, cells := 0, slots := 0, locals := 64 })
theorem m_J0_charAt_5068e : M_J0_charAt_5068e.ok := ⟨by decide, by decide, by decide, x_86, x_620, rfl, rfl⟩
theorem DJ0_charAt_5068e : decs ccJ0_charAt_5068e [(0, .aload_n 0, 1), (1, .invokevirtual 492, 3), (4, .ifCond .eq 12, 3), (7, .aload_n 0, 1), (8, .getfield 9, 3), (11, .iload_n 1, 1), (12, .invokestatic 495, 3), (15, .ireturn, 1), (16, .aload_n 0, 1), (17, .getfield 9, 3), (20, .iload_n 1, 1), (21, .invokestatic 498, 3), (24, .ireturn, 1)] := by unfold decs; decide +kernel
theorem dJ0_charAt_5068e_0 : decode ccJ0_charAt_5068e 0 = .ok (.aload_n 0, 1) := decs_at DJ0_charAt_5068e 0 rfl
theorem dJ0_charAt_5068e_1 : decode ccJ0_charAt_5068e 1 = .ok (.invokevirtual 492, 3) := decs_at DJ0_charAt_5068e 1 rfl
theorem dJ0_charAt_5068e_4 : decode ccJ0_charAt_5068e 4 = .ok (.ifCond .eq 12, 3) := decs_at DJ0_charAt_5068e 2 rfl
theorem dJ0_charAt_5068e_7 : decode ccJ0_charAt_5068e 7 = .ok (.aload_n 0, 1) := decs_at DJ0_charAt_5068e 3 rfl
theorem dJ0_charAt_5068e_8 : decode ccJ0_charAt_5068e 8 = .ok (.getfield 9, 3) := decs_at DJ0_charAt_5068e 4 rfl
theorem dJ0_charAt_5068e_11 : decode ccJ0_charAt_5068e 11 = .ok (.iload_n 1, 1) := decs_at DJ0_charAt_5068e 5 rfl
theorem dJ0_charAt_5068e_12 : decode ccJ0_charAt_5068e 12 = .ok (.invokestatic 495, 3) := decs_at DJ0_charAt_5068e 6 rfl
theorem dJ0_charAt_5068e_15 : decode ccJ0_charAt_5068e 15 = .ok (.ireturn, 1) := decs_at DJ0_charAt_5068e 7 rfl
theorem dJ0_charAt_5068e_16 : decode ccJ0_charAt_5068e 16 = .ok (.aload_n 0, 1) := decs_at DJ0_charAt_5068e 8 rfl
theorem dJ0_charAt_5068e_17 : decode ccJ0_charAt_5068e 17 = .ok (.getfield 9, 3) := decs_at DJ0_charAt_5068e 9 rfl
theorem dJ0_charAt_5068e_20 : decode ccJ0_charAt_5068e 20 = .ok (.iload_n 1, 1) := decs_at DJ0_charAt_5068e 10 rfl
theorem dJ0_charAt_5068e_21 : decode ccJ0_charAt_5068e 21 = .ok (.invokestatic 498, 3) := decs_at DJ0_charAt_5068e 11 rfl
theorem dJ0_charAt_5068e_24 : decode ccJ0_charAt_5068e 24 = .ok (.ireturn, 1) := decs_at DJ0_charAt_5068e 12 rfl
abbrev ccJ0_coder_7d493 : ByteArray := prog_22_method_152_code
set_option maxRecDepth 100000 in
theorem x_614 : Cond.code ⟨"java/lang/String", "coder", "()B"⟩ prog_22_method_152_code 1 (some .byte) ∈ gtb := mem_g 614 (by rfl) (by decide +kernel)
def M_J0_coder_7d493 : Md := (⟨"java/lang/String", "coder", "()B"⟩, prog_22_method_152_code, 1, (some .byte), { frames := 0, cells := 0, slots := 0, locals := 0 })
theorem m_J0_coder_7d493 : M_J0_coder_7d493.ok := ⟨by decide, by decide, by decide, x_86, x_614, rfl, rfl⟩
theorem DJ0_coder_7d493 : decs ccJ0_coder_7d493 [(0, .getstatic 38, 3), (3, .ifCond .eq 10, 3), (6, .aload_n 0, 1), (7, .getfield 15, 3), (10, .goto 4, 3), (13, .iconst 1, 1), (14, .ireturn, 1)] := by unfold decs; decide +kernel
theorem dJ0_coder_7d493_0 : decode ccJ0_coder_7d493 0 = .ok (.getstatic 38, 3) := decs_at DJ0_coder_7d493 0 rfl
theorem dJ0_coder_7d493_3 : decode ccJ0_coder_7d493 3 = .ok (.ifCond .eq 10, 3) := decs_at DJ0_coder_7d493 1 rfl
theorem dJ0_coder_7d493_6 : decode ccJ0_coder_7d493 6 = .ok (.aload_n 0, 1) := decs_at DJ0_coder_7d493 2 rfl
theorem dJ0_coder_7d493_7 : decode ccJ0_coder_7d493 7 = .ok (.getfield 15, 3) := decs_at DJ0_coder_7d493 3 rfl
theorem dJ0_coder_7d493_10 : decode ccJ0_coder_7d493 10 = .ok (.goto 4, 3) := decs_at DJ0_coder_7d493 4 rfl
theorem dJ0_coder_7d493_13 : decode ccJ0_coder_7d493 13 = .ok (.iconst 1, 1) := decs_at DJ0_coder_7d493 5 rfl
theorem dJ0_coder_7d493_14 : decode ccJ0_coder_7d493 14 = .ok (.ireturn, 1) := decs_at DJ0_coder_7d493 6 rfl
abbrev ccJ0_length_8abf5 : ByteArray := prog_22_method_54_code
def M_J0_length_8abf5 : Md := (⟨"java/lang/String", "length", "()I"⟩, prog_22_method_54_code, 1, (some .int), { frames := 1, cells := 0, slots := 0, locals := 20 })
theorem m_J0_length_8abf5 : M_J0_length_8abf5.ok := ⟨by decide, by decide, by decide, x_86, x_610, rfl, rfl⟩
theorem DJ0_length_8abf5 : decs ccJ0_length_8abf5 [(0, .aload_n 0, 1), (1, .getfield 9, 3), (4, .arraylength, 1), (5, .aload_n 0, 1), (6, .invokevirtual 335, 3), (9, .ishr, 1), (10, .ireturn, 1)] := by unfold decs; decide +kernel
theorem dJ0_length_8abf5_0 : decode ccJ0_length_8abf5 0 = .ok (.aload_n 0, 1) := decs_at DJ0_length_8abf5 0 rfl
theorem dJ0_length_8abf5_1 : decode ccJ0_length_8abf5 1 = .ok (.getfield 9, 3) := decs_at DJ0_length_8abf5 1 rfl
theorem dJ0_length_8abf5_4 : decode ccJ0_length_8abf5 4 = .ok (.arraylength, 1) := decs_at DJ0_length_8abf5 2 rfl
theorem dJ0_length_8abf5_5 : decode ccJ0_length_8abf5 5 = .ok (.aload_n 0, 1) := decs_at DJ0_length_8abf5 3 rfl
theorem dJ0_length_8abf5_6 : decode ccJ0_length_8abf5 6 = .ok (.invokevirtual 335, 3) := decs_at DJ0_length_8abf5 4 rfl
theorem dJ0_length_8abf5_9 : decode ccJ0_length_8abf5 9 = .ok (.ishr, 1) := decs_at DJ0_length_8abf5 5 rfl
theorem dJ0_length_8abf5_10 : decode ccJ0_length_8abf5 10 = .ok (.ireturn, 1) := decs_at DJ0_length_8abf5 6 rfl
set_option maxHeartbeats 4000000 in
theorem c_J3_checkIndex_8e157 (E : En) (hE : q_ok E) (w : Wi) (z : Wj) (x n : Int32) (r : Nat) (h1 : 0 ≤ x) (h2 : x < n) : CsI M_J3_checkIndex_8e157 E [.int x, .int n, .ref r] w z (fun r_ u_ => r_ = x ∧ u_ = (w, z)) := by
  refine csI_of (lv := [(0, .int x), (1, .int n), (2, .ref r)]) hE m_J3_checkIndex_8e157 (Nat.le_of_ble_eq_true rfl) rfl ?_
  intro K A C0 SO
  have C : Cx K E A ccJ3_checkIndex_8e157 3 "jdk/internal/util/Preconditions" (some .int) { frames := 0, cells := 0, slots := 0, locals := 0 } := C0
  refine v_iload_n C 0 dJ3_checkIndex_8e157_0 rfl ?_
  refine v_if_lt C 9 dJ3_checkIndex_8e157_1 (by decide) (fun c => absurd c (by grind)) (fun _ => ?_)
  refine v_iload_n C 0 dJ3_checkIndex_8e157_4 rfl ?_
  refine v_iload_n C 1 dJ3_checkIndex_8e157_5 rfl ?_
  refine v_ic_lt C 16 dJ3_checkIndex_8e157_6 (by decide) (fun _ => ?_) (fun c => absurd h2 c)
  refine v_iload_n C 0 dJ3_checkIndex_8e157_16 rfl ?_
  exact v_iret C dJ3_checkIndex_8e157_17 ⟨rfl, rfl⟩
set_option maxHeartbeats 4000000 in
theorem c_J3_checkNull (E : En) (hE : q_ok E) (w : Wi) (z : Wj) (x n : Int32) (h1 : 0 ≤ x) (h2 : x < n) : CsI M_J3_checkIndex_8e157 E [.int x, .int n, .null] w z (fun r_ u_ => r_ = x ∧ u_ = (w, z)) := by
  refine csI_of (lv := [(0, .int x), (1, .int n), (2, .null)]) hE m_J3_checkIndex_8e157 (Nat.le_of_ble_eq_true rfl) rfl ?_
  intro K A C0 SO
  have C : Cx K E A ccJ3_checkIndex_8e157 3 "jdk/internal/util/Preconditions" (some .int) { frames := 0, cells := 0, slots := 0, locals := 0 } := C0
  refine v_iload_n C 0 dJ3_checkIndex_8e157_0 rfl ?_
  refine v_if_lt C 9 dJ3_checkIndex_8e157_1 (by decide) (fun c => absurd c (by grind)) (fun _ => ?_)
  refine v_iload_n C 0 dJ3_checkIndex_8e157_4 rfl ?_
  refine v_iload_n C 1 dJ3_checkIndex_8e157_5 rfl ?_
  refine v_ic_lt C 16 dJ3_checkIndex_8e157_6 (by decide) (fun _ => ?_) (fun c => absurd h2 c)
  refine v_iload_n C 0 dJ3_checkIndex_8e157_16 rfl ?_
  exact v_iret C dJ3_checkIndex_8e157_17 ⟨rfl, rfl⟩
set_option maxHeartbeats 4000000 in
theorem c_J0_checkIndex_df160 (E : En) (hE : q_ok E) (w : Wi) (z : Wj) (x n : Int32) (h1 : 0 ≤ x) (h2 : x < n) : CsV M_J0_checkIndex_df160 E [.int x, .int n] w z (fun u_ => u_ = (w, z)) := by
  refine csV_of (lv := [(0, .int x), (1, .int n)]) hE m_J0_checkIndex_df160 (Nat.le_of_ble_eq_true rfl) rfl ?_
  intro K A C0 SO
  have C : Cx K E A ccJ0_checkIndex_df160 2 "java/lang/String" none { frames := 1, cells := 0, slots := 0, locals := 22 } := C0
  refine v_iload_n C 0 dJ0_checkIndex_df160_0 rfl ?_
  refine v_iload_n C 1 dJ0_checkIndex_df160_1 rfl ?_
  rcases SO.2.2.2 with hz | ⟨t, hz⟩
  · refine v_gets C hz x_631 dJ0_checkIndex_df160_2 ?_
    refine v_ssI C SO [.int x, .int n, .null] 3 (c_J3_checkNull E hE _ _ x n h1 h2) m_J3_checkIndex_8e157 x_633 x_634 (by decide) rfl ⟨Nat.le_of_ble_eq_true rfl, Nat.le_of_ble_eq_true rfl⟩ rfl (Nat.le_of_ble_eq_true rfl) dJ0_checkIndex_df160_5 (fun r u v hp => ?_)
    obtain ⟨hr, hu⟩ := hp
    cases hu
    refine v_pop C dJ0_checkIndex_df160_8 rfl ?_
    exact v_vret C dJ0_checkIndex_df160_9 rfl
  · refine v_gets C hz x_631 dJ0_checkIndex_df160_2 ?_
    refine v_ssI C SO [.int x, .int n, .ref t] 3 (c_J3_checkIndex_8e157 E hE _ _ x n t h1 h2) m_J3_checkIndex_8e157 x_633 x_634 (by decide) rfl ⟨Nat.le_of_ble_eq_true rfl, Nat.le_of_ble_eq_true rfl⟩ rfl (Nat.le_of_ble_eq_true rfl) dJ0_checkIndex_df160_5 (fun r u v hp => ?_)
    obtain ⟨hr, hu⟩ := hp
    cases hu
    refine v_pop C dJ0_checkIndex_df160_8 rfl ?_
    exact v_vret C dJ0_checkIndex_df160_9 rfl
set_option maxHeartbeats 4000000 in
theorem c_J1_charAt_3b067 (E : En) (hE : q_ok E) (w : Wi) (z : Wj) (i : Nat) (x : Int32) (hi : i < 20) (h1 : 0 ≤ x) (h2 : x < nI (lenS.getD i 0)) : CsI M_J1_charAt_3b067 E [.ref (E.ad 70 i), .int x] w z (fun r_ u_ => r_ = (litS.getD i []).getD x.toNatClampNeg 0 ∧ u_ = (w, z)) := by
  refine csI_of (lv := [(0, .ref (E.ad 70 i)), (1, .int x)]) hE m_J1_charAt_3b067 (Nat.le_of_ble_eq_true rfl) rfl ?_
  intro K A C0 SO
  have C : Cx K E A ccJ1_charAt_3b067 2 "java/lang/StringLatin1" (some .char) { frames := 2, cells := 0, slots := 0, locals := 43 } := C0
  have hT := (SO.1.1 i hi).2.2.2
  obtain ⟨hL, hB⟩ := lit_ok i hi
  have hk : x.toNatClampNeg < lenS.getD i 0 := by
    have := (cl_lt h1 (nI_pos' (by omega))).mpr h2
    rwa [nI_clamp (by omega)] at this
  have hb := hB _ hk
  refine v_iload_n C 1 dJ1_charAt_3b067_0 rfl ?_
  refine v_aload_n C 0 dJ1_charAt_3b067_1 rfl ?_
  refine v_tlen C hT (v := nI (lenS.getD i 0)) rfl dJ1_charAt_3b067_2 ?_
  refine v_ssV C SO [.int x, .int (nI (lenS.getD i 0))] 2 (c_J0_checkIndex_df160 E hE _ _ x _ h1 h2) m_J0_checkIndex_df160 x_628 x_629 (by decide) rfl ⟨Nat.le_of_ble_eq_true rfl, Nat.le_of_ble_eq_true rfl⟩ rfl (Nat.le_of_ble_eq_true rfl) dJ1_charAt_3b067_3 (fun u v hp => ?_)
  cases hp
  refine v_aload_n C 0 dJ1_charAt_3b067_6 rfl ?_
  refine v_iload_n C 1 dJ1_charAt_3b067_7 rfl ?_
  refine v_tb C hT (vp_x h1 hk (by omega)) rfl dJ1_charAt_3b067_8 ?_
  refine v_sipush (v := 255) C dJ1_charAt_3b067_9 (by decide) ?_
  refine v_iand C dJ1_charAt_3b067_12 ?_
  refine v_i2c C dJ1_charAt_3b067_13 (v := (litS.getD i []).getD x.toNatClampNeg 0) (by rw [hb.1]; exact hb.2.1) ?_
  exact v_nret C dJ1_charAt_3b067_14 hb.2.2 ⟨rfl, rfl⟩
set_option maxHeartbeats 4000000 in
theorem c_J0_isLatin1_aae02 (E : En) (hE : q_ok E) (w : Wi) (z : Wj) (i : Nat) (hi : i < 20) : CsI M_J0_isLatin1_aae02 E [.ref (E.ad 69 i)] w z (fun r_ u_ => r_ = 1 ∧ u_ = (w, z)) := by
  refine csI_of (lv := [(0, .ref (E.ad 69 i))]) hE m_J0_isLatin1_aae02 (Nat.le_of_ble_eq_true rfl) rfl ?_
  intro K A C0 SO
  have C : Cx K E A ccJ0_isLatin1_aae02 1 "java/lang/String" (some .boolean) { frames := 0, cells := 0, slots := 0, locals := 0 } := C0
  refine v_gets C SO.2.2.1 x_615 dJ0_isLatin1_aae02_0 ?_
  refine v_if_eq C 17 dJ0_isLatin1_aae02_3 (by decide) (fun c => absurd c (by decide)) (fun _ => ?_)
  refine v_aload_n C 0 dJ0_isLatin1_aae02_6 rfl ?_
  refine v_getS C (SO.1.1 i hi).2.1 x_1765 dJ0_isLatin1_aae02_7 ?_
  refine v_if_ne C 17 dJ0_isLatin1_aae02_10 (by decide) (fun c => absurd rfl c) (fun _ => ?_)
  refine v_iconst (v := 1) C dJ0_isLatin1_aae02_13 (by decide) ?_
  refine v_goto C 18 dJ0_isLatin1_aae02_14 (by decide) ?_
  exact v_zret C dJ0_isLatin1_aae02_18 (by decide) ⟨rfl, rfl⟩
set_option maxHeartbeats 4000000 in
theorem c_J0_coder_7d493 (E : En) (hE : q_ok E) (w : Wi) (z : Wj) (i : Nat) (hi : i < 20) : CsI M_J0_coder_7d493 E [.ref (E.ad 69 i)] w z (fun r_ u_ => r_ = 0 ∧ u_ = (w, z)) := by
  refine csI_of (lv := [(0, .ref (E.ad 69 i))]) hE m_J0_coder_7d493 (Nat.le_of_ble_eq_true rfl) rfl ?_
  intro K A C0 SO
  have C : Cx K E A ccJ0_coder_7d493 1 "java/lang/String" (some .byte) { frames := 0, cells := 0, slots := 0, locals := 0 } := C0
  refine v_gets C SO.2.2.1 x_615 dJ0_coder_7d493_0 ?_
  refine v_if_eq C 13 dJ0_coder_7d493_3 (by decide) (fun c => absurd c (by decide)) (fun _ => ?_)
  refine v_aload_n C 0 dJ0_coder_7d493_6 rfl ?_
  refine v_getS C (SO.1.1 i hi).2.1 x_1765 dJ0_coder_7d493_7 ?_
  refine v_goto C 14 dJ0_coder_7d493_10 (by decide) ?_
  exact v_nret C dJ0_coder_7d493_14 (by decide) ⟨rfl, rfl⟩
set_option maxHeartbeats 4000000 in
theorem c_J0_length_8abf5 (E : En) (hE : q_ok E) (w : Wi) (z : Wj) (i : Nat) (hi : i < 20) : CsI M_J0_length_8abf5 E [.ref (E.ad 69 i)] w z (fun r_ u_ => r_ = nI (lenS.getD i 0) ∧ u_ = (w, z)) := by
  refine csI_of (lv := [(0, .ref (E.ad 69 i))]) hE m_J0_length_8abf5 (Nat.le_of_ble_eq_true rfl) rfl ?_
  intro K A C0 SO
  have C : Cx K E A ccJ0_length_8abf5 1 "java/lang/String" (some .int) { frames := 1, cells := 0, slots := 0, locals := 20 } := C0
  refine v_aload_n C 0 dJ0_length_8abf5_0 rfl ?_
  refine v_getS C (SO.1.1 i hi).2.2.1 x_1764 dJ0_length_8abf5_1 ?_
  refine v_tlen C (SO.1.1 i hi).2.2.2 (v := nI (lenS.getD i 0)) rfl dJ0_length_8abf5_4 ?_
  refine v_aload_n C 0 dJ0_length_8abf5_5 rfl ?_
  refine v_vtI C SO i [] 0 (c_J0_coder_7d493 E hE _ _ i hi) m_J0_coder_7d493 x_611 x_612 x_613 (by decide) rfl ⟨Nat.le_of_ble_eq_true rfl, Nat.le_of_ble_eq_true rfl⟩ hi rfl rfl (Nat.le_of_ble_eq_true rfl) dJ0_length_8abf5_6 (fun r u v hp => ?_)
  obtain ⟨hr, hu⟩ := hp
  cases hu
  subst hr
  refine v_ishr C dJ0_length_8abf5_9 ?_
  exact v_iret C dJ0_length_8abf5_10 ⟨by rw [show (0 : Int32) &&& 31 = 0 from rfl]; exact shr_0 _, rfl⟩
set_option maxHeartbeats 4000000 in
theorem c_J0_charAt_5068e (E : En) (hE : q_ok E) (w : Wi) (z : Wj) (i : Nat) (x : Int32) (hi : i < 20) (h1 : 0 ≤ x) (h2 : x < nI (lenS.getD i 0)) : CsI M_J0_charAt_5068e E [.ref (E.ad 69 i), .int x] w z (fun r_ u_ => r_ = (litS.getD i []).getD x.toNatClampNeg 0 ∧ u_ = (w, z)) := by
  refine csI_of (lv := [(0, .ref (E.ad 69 i)), (1, .int x)]) hE m_J0_charAt_5068e (Nat.le_of_ble_eq_true rfl) rfl ?_
  intro K A C0 SO
  have C : Cx K E A ccJ0_charAt_5068e 2 "java/lang/String" (some .char) { frames := 3, cells := 0, slots := 0, locals := 64 } := C0
  obtain ⟨hL, hB⟩ := lit_ok i hi
  have hk : x.toNatClampNeg < lenS.getD i 0 := by
    have := (cl_lt h1 (nI_pos' (by omega))).mpr h2
    rwa [nI_clamp (by omega)] at this
  have hb := hB _ hk
  refine v_aload_n C 0 dJ0_charAt_5068e_0 rfl ?_
  refine v_vtI C SO i [] 0 (c_J0_isLatin1_aae02 E hE _ _ i hi) m_J0_isLatin1_aae02 x_621 x_622 x_623 (by decide) rfl ⟨Nat.le_of_ble_eq_true rfl, Nat.le_of_ble_eq_true rfl⟩ hi rfl rfl (Nat.le_of_ble_eq_true rfl) dJ0_charAt_5068e_1 (fun r u v hp => ?_)
  obtain ⟨hr, hu⟩ := hp
  cases hu
  subst hr
  refine v_if_eq C 16 dJ0_charAt_5068e_4 (by decide) (fun c => absurd c (by decide)) (fun _ => ?_)
  refine v_aload_n C 0 dJ0_charAt_5068e_7 rfl ?_
  refine v_getS C (SO.1.1 i hi).2.2.1 x_1764 dJ0_charAt_5068e_8 ?_
  refine v_iload_n C 1 dJ0_charAt_5068e_11 rfl ?_
  refine v_ssI C SO [.ref (E.ad 70 i), .int x] 2 (c_J1_charAt_3b067 E hE _ _ i x hi h1 h2) m_J1_charAt_3b067 x_625 x_626 (by decide) rfl ⟨Nat.le_of_ble_eq_true rfl, Nat.le_of_ble_eq_true rfl⟩ rfl (Nat.le_of_ble_eq_true rfl) dJ0_charAt_5068e_12 (fun r u v hp => ?_)
  obtain ⟨hr, hu⟩ := hp
  cases hu
  subst hr
  exact v_nret C dJ0_charAt_5068e_15 hb.2.2 ⟨rfl, rfl⟩
