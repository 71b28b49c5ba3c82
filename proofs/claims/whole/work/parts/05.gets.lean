section RZ
variable {K : Pk} {E : En} {A : Nat → Prop} {cc : ByteArray} {nL : Nat} {own : String} {ret : Option FieldType} {rm : Room} {Q : State → Prop} {pc : Nat} {lv : List (Nat × Value)} {st : List Value} {w : Wi} {z : Wj}
theorem v_gI (C : Cx K E A cc nL own ret rm) {CC : String} {T : u_T} {index : Nat} (t a k τ : Nat) (x : Int32) (hm : (t, a) ∈ E.U) (hcl : q_cl t CC T) (hk : k < q_N t) (hτ : 100 + 80 * t + k = τ) (h0 : (q_kd t k).1 = 0) (hl : Cond.fieldLink own index (T k).1 (T k).2.1 (T k).2.2.1 ∈ gtb) (hx : w τ a 0 = x) (d : decode cc pc = .ok (.getfield index, 3)) (kk : V K E A nL Q (pc + 3) lv (.int x :: st) w z) : V K E A nL Q pc lv (.ref (E.ad t a) :: st) w z :=
  v_get C t a k hm hcl hk hl (by simp only [q_fv, h0, hτ, hx]) d kk
theorem v_gJ (C : Cx K E A cc nL own ret rm) {CC : String} {T : u_T} {index : Nat} (t a k τ : Nat) (x : Int64) (hm : (t, a) ∈ E.U) (hcl : q_cl t CC T) (hk : k < q_N t) (hτ : 100 + 80 * t + k = τ) (h0 : (q_kd t k).1 = 1) (hl : Cond.fieldLink own index (T k).1 (T k).2.1 (T k).2.2.1 ∈ gtb) (hx : z τ a 0 = x) (d : decode cc pc = .ok (.getfield index, 3)) (kk : V K E A nL Q (pc + 3) lv (.long x :: st) w z) : V K E A nL Q pc lv (.ref (E.ad t a) :: st) w z :=
  v_get C t a k hm hcl hk hl (by simp only [q_fv, h0, hτ, hx]) d kk
theorem v_gR (C : Cx K E A cc nL own ret rm) {CC : String} {T : u_T} {index : Nat} (t a k t2 a2 : Nat) (hm : (t, a) ∈ E.U) (hcl : q_cl t CC T) (hk : k < q_N t) (hl : Cond.fieldLink own index (T k).1 (T k).2.1 (T k).2.2.1 ∈ gtb) (h0 : ∀ (E : En) (w : Wi) (z : Wj), q_fv E w z t a k = .ref (E.ad t2 a2)) (d : decode cc pc = .ok (.getfield index, 3)) (kk : V K E A nL Q (pc + 3) lv (.ref (E.ad t2 a2) :: st) w z) : V K E A nL Q pc lv (.ref (E.ad t a) :: st) w z :=
  v_get C t a k hm hcl hk hl (h0 E w z) d kk
theorem v_pI (C : Cx K E A cc nL own ret rm) {CC : String} {T : u_T} {tyf : Nat → FieldType} {index : Nat} (t a k τ : Nat) {v : Int32} (hm : (t, a) ∈ E.U) (hcl : q_cl t CC T) (hty : q_ty T tyf (q_N t)) (hk : k < q_N t) (hτ : 100 + 80 * t + k = τ) (h0 : (q_kd t k).1 = 0 ∧ (T k).2.2.2 = false) (hl : Cond.fieldLink own index (T k).1 (T k).2.1 (T k).2.2.1 ∈ gtb) (hn : narrow (tyf k) (.int v) = .int v) (hf : fits (tyf k) (.int v) = true) (d : decode cc pc = .ok (.putfield index, 3)) (kk : V K E A nL Q (pc + 3) lv st (wS w τ a (fun _ => v)) z) : V K E A nL Q pc lv (.int v :: .ref (E.ad t a) :: st) w z := by
  subst hτ
  exact v_put C t a k hm hcl hty hk h0 hl hn hf d kk
theorem v_pJ (C : Cx K E A cc nL own ret rm) {CC : String} {T : u_T} {tyf : Nat → FieldType} {index : Nat} (t a k τ : Nat) {v : Int64} (hm : (t, a) ∈ E.U) (hcl : q_cl t CC T) (hty : q_ty T tyf (q_N t)) (hk : k < q_N t) (hτ : 100 + 80 * t + k = τ) (h0 : (q_kd t k).1 = 1 ∧ (T k).2.2.2 = false) (hl : Cond.fieldLink own index (T k).1 (T k).2.1 (T k).2.2.1 ∈ gtb) (hn : narrow (tyf k) (.long v) = .long v) (hf : fits (tyf k) (.long v) = true) (d : decode cc pc = .ok (.putfield index, 3)) (kk : V K E A nL Q (pc + 3) lv st w (wS z τ a (fun _ => v))) : V K E A nL Q pc lv (.long v :: .ref (E.ad t a) :: st) w z := by
  subst hτ
  exact v_putJ C t a k hm hcl hty hk h0 hl hn hf d kk
theorem v_tS (C : Cx K E A cc nL own ret rm) (τ a : Nat) (hτ : 100 ≤ τ) (kk : V K E A nL Q pc lv st (wS w τ a (fun _ => w τ a 0)) z) : V K E A nL Q pc lv st w z := by
  have hE := C.2.2.2.2.2.2.2.2.2.2
  have h : wc E w z = wc E (wS w τ a (fun _ => w τ a 0)) z := by
    apply List.map_congr_left
    intro q hq
    have h80 := hE.2.1 q hq
    congr 1
    by_cases h13 : q.1 < 13
    · simp only [q_e, if_pos h13]
      congr 2
      apply List.map_congr_left
      intro k _
      have : ∀ t2 a2, wS w τ a (fun _ => w τ a 0) t2 a2 0 = w t2 a2 0 := by
        intro t2 a2
        by_cases hh : t2 = τ ∧ a2 = a
        · simp only [wS, if_pos hh]; rw [hh.1, hh.2]
        · simp only [wS, if_neg hh]
      simp only [q_fv, this]
    · simp only [q_e, if_neg h13, q_ar]
      rw [wS_t _ _ _ _ (by omega)]
  intro H locs ls hls hP hD hS
  rw [h] at hP hD
  exact kk H locs ls hls hP hD hS
theorem v_top {x : Int32} (k : ∀ y : Int32, y = x → V K E A nL Q pc lv (.int y :: st) w z) : V K E A nL Q pc lv (.int x :: st) w z := k x rfl
theorem v_in {x N : Int32} {n : Nat} (hN : N.toInt = n) (h0 : 0 ≤ x) (h1 : x < N) : vp_in x n := by
  rw [vp_in_iff]
  rw [Int32.le_iff_toInt_le] at h0
  rw [Int32.lt_iff_toInt_lt, hN] at h1
  exact ⟨h0, h1⟩
theorem wS_cc {α : Type} (w : Nat → Nat → Nat → α) {t : Nat} {a a2 : Nat} (f g : Nat → α) (h : a2 < a) : wS (wS w t a f) t a2 g = wS (wS w t a2 g) t a f := by
  funext t3 a3
  by_cases h1 : t3 = t ∧ a3 = a
  · have h2 : ¬ (t3 = t ∧ a3 = a2) := by omega
    simp only [wS, if_pos h1, if_neg h2]
  · simp only [wS, if_neg h1]
theorem wS_eq {α : Type} {w w2 : Nat → Nat → Nat → α} {t a : Nat} {f g : Nat → α} (h : w = w2) (h2 : f = g) : wS w t a f = wS w2 t a g := by rw [h, h2]
theorem fu_eq {α : Type} {x y : α} (h : x = y) : (fun _ : Nat => x) = (fun _ => y) := by rw [h]
theorem C_m {q : Nat × Nat} (C : Cx K E A cc nL own ret rm) (h : q ∈ q_UC) : q ∈ E.U := C.2.2.2.2.2.2.2.2.2.2.2.2 q h
end RZ
theorem u_0 : ∀ a, a < 4 → (0, a) ∈ q_UC := by decide +kernel
theorem u_1 : ∀ a, a < 1 → (1, a) ∈ q_UC := by decide +kernel
theorem u_2 : ∀ a, a < 1 → (2, a) ∈ q_UC := by decide +kernel
theorem u_3 : ∀ a, a < 1 → (3, a) ∈ q_UC := by decide +kernel
theorem u_4 : ∀ a, a < 2 → (4, a) ∈ q_UC := by decide +kernel
theorem u_5 : ∀ a, a < 4 → (5, a) ∈ q_UC := by decide +kernel
theorem u_6 : ∀ a, a < 3 → (6, a) ∈ q_UC := by decide +kernel
theorem u_7 : ∀ a, a < 1 → (7, a) ∈ q_UC := by decide +kernel
theorem u_8 : ∀ a, a < 1 → (8, a) ∈ q_UC := by decide +kernel
theorem u_9 : ∀ a, a < 1 → (9, a) ∈ q_UC := by decide +kernel
theorem u_10 : ∀ a, a < 1 → (10, a) ∈ q_UC := by decide +kernel
theorem u_11 : ∀ a, a < 1 → (11, a) ∈ q_UC := by decide +kernel
theorem u_12 : ∀ a, a < 1 → (12, a) ∈ q_UM := by decide +kernel
theorem u_13 : ∀ a, a < 4 → (13, a) ∈ q_UC := by decide +kernel
theorem u_14 : ∀ a, a < 4 → (14, a) ∈ q_UC := by decide +kernel
theorem u_15 : ∀ a, a < 4 → (15, a) ∈ q_UC := by decide +kernel
theorem u_16 : ∀ a, a < 4 → (16, a) ∈ q_UC := by decide +kernel
theorem u_17 : ∀ a, a < 1 → (17, a) ∈ q_UC := by decide +kernel
theorem u_18 : ∀ a, a < 1 → (18, a) ∈ q_UC := by decide +kernel
theorem u_19 : ∀ a, a < 1 → (19, a) ∈ q_UC := by decide +kernel
theorem u_20 : ∀ a, a < 1 → (20, a) ∈ q_UC := by decide +kernel
theorem u_21 : ∀ a, a < 1 → (21, a) ∈ q_UC := by decide +kernel
theorem u_22 : ∀ a, a < 1 → (22, a) ∈ q_UC := by decide +kernel
theorem u_23 : ∀ a, a < 1 → (23, a) ∈ q_UC := by decide +kernel
theorem u_24 : ∀ a, a < 1 → (24, a) ∈ q_UC := by decide +kernel
theorem u_25 : ∀ a, a < 1 → (25, a) ∈ q_UC := by decide +kernel
theorem u_26 : ∀ a, a < 1 → (26, a) ∈ q_UC := by decide +kernel
theorem u_27 : ∀ a, a < 2 → (27, a) ∈ q_UC := by decide +kernel
theorem u_28 : ∀ a, a < 2 → (28, a) ∈ q_UC := by decide +kernel
theorem u_29 : ∀ a, a < 2 → (29, a) ∈ q_UC := by decide +kernel
theorem u_30 : ∀ a, a < 4 → (30, a) ∈ q_UC := by decide +kernel
theorem u_31 : ∀ a, a < 4 → (31, a) ∈ q_UC := by decide +kernel
theorem u_32 : ∀ a, a < 4 → (32, a) ∈ q_UC := by decide +kernel
theorem u_33 : ∀ a, a < 4 → (33, a) ∈ q_UC := by decide +kernel
theorem u_34 : ∀ a, a < 4 → (34, a) ∈ q_UC := by decide +kernel
theorem u_35 : ∀ a, a < 4 → (35, a) ∈ q_UC := by decide +kernel
theorem u_36 : ∀ a, a < 4 → (36, a) ∈ q_UC := by decide +kernel
theorem u_37 : ∀ a, a < 1 → (37, a) ∈ q_UC := by decide +kernel
theorem u_38 : ∀ a, a < 1 → (38, a) ∈ q_UC := by decide +kernel
theorem u_39 : ∀ a, a < 1 → (39, a) ∈ q_UC := by decide +kernel
theorem u_40 : ∀ a, a < 1 → (40, a) ∈ q_UC := by decide +kernel
theorem u_41 : ∀ a, a < 1 → (41, a) ∈ q_UM := by decide +kernel
theorem u_42 : ∀ a, a < 1 → (42, a) ∈ q_UM := by decide +kernel
theorem u_43 : ∀ a, a < 1 → (43, a) ∈ q_UM := by decide +kernel
theorem u_44 : ∀ a, a < 1 → (44, a) ∈ q_UM := by decide +kernel
theorem u_45 : ∀ a, a < 1 → (45, a) ∈ q_UM := by decide +kernel
theorem u_46 : ∀ a, a < 1 → (46, a) ∈ q_UM := by decide +kernel
theorem u_47 : ∀ a, a < 1 → (47, a) ∈ q_UM := by decide +kernel
theorem u_48 : ∀ a, a < 1 → (48, a) ∈ q_UM := by decide +kernel
theorem u_49 : ∀ a, a < 1 → (49, a) ∈ q_UM := by decide +kernel
theorem u_50 : ∀ a, a < 1 → (50, a) ∈ q_UM := by decide +kernel
theorem u_51 : ∀ a, a < 1 → (51, a) ∈ q_UM := by decide +kernel
theorem u_52 : ∀ a, a < 1 → (52, a) ∈ q_UM := by decide +kernel
theorem u_53 : ∀ a, a < 1 → (53, a) ∈ q_UM := by decide +kernel
theorem u_54 : ∀ a, a < 1 → (54, a) ∈ q_UM := by decide +kernel
theorem u_55 : ∀ a, a < 1 → (55, a) ∈ q_UM := by decide +kernel
theorem u_56 : ∀ a, a < 1 → (56, a) ∈ q_UM := by decide +kernel
theorem u_57 : ∀ a, a < 1 → (57, a) ∈ q_UM := by decide +kernel
theorem u_58 : ∀ a, a < 1 → (58, a) ∈ q_UM := by decide +kernel
theorem u_59 : ∀ a, a < 1 → (59, a) ∈ q_UM := by decide +kernel
theorem u_60 : ∀ a, a < 1 → (60, a) ∈ q_UM := by decide +kernel
theorem u_61 : ∀ a, a < 1 → (61, a) ∈ q_UM := by decide +kernel
theorem u_62 : ∀ a, a < 1 → (62, a) ∈ q_UM := by decide +kernel
theorem u_63 : ∀ a, a < 1 → (63, a) ∈ q_UM := by decide +kernel
theorem u_64 : ∀ a, a < 1 → (64, a) ∈ q_UM := by decide +kernel
theorem u_65 : ∀ a, a < 1 → (65, a) ∈ q_UM := by decide +kernel
theorem u_66 : ∀ a, a < 1 → (66, a) ∈ q_UM := by decide +kernel
theorem u_67 : ∀ a, a < 1 → (67, a) ∈ q_UM := by decide +kernel
theorem u_68 : ∀ a, a < 1 → (68, a) ∈ q_UM := by decide +kernel
theorem k_0 : q_cl 0 RX0 TX0 := ⟨by decide, rfl, by
  have h : ∀ w ∈ u_ws RX0 TX0 10, w ∈ lw_tbl ∧ goodWord w = true := by decide +kernel
  intro w hw
  exact List.mem_filter.mpr (h w hw)⟩
theorem ty_0 : q_ty TX0 tyX0 (q_N 0) := ⟨tyX0_ok, nmX0⟩
theorem k_1 : q_cl 1 RX1 TX1 := ⟨by decide, rfl, by
  have h : ∀ w ∈ u_ws RX1 TX1 6, w ∈ lw_tbl ∧ goodWord w = true := by decide +kernel
  intro w hw
  exact List.mem_filter.mpr (h w hw)⟩
theorem ty_1 : q_ty TX1 tyX1 (q_N 1) := ⟨tyX1_ok, nmX1⟩
theorem k_2 : q_cl 2 RX2 TX2 := ⟨by decide, rfl, by
  have h : ∀ w ∈ u_ws RX2 TX2 18, w ∈ lw_tbl ∧ goodWord w = true := by decide +kernel
  intro w hw
  exact List.mem_filter.mpr (h w hw)⟩
theorem ty_2 : q_ty TX2 tyX2 (q_N 2) := ⟨tyX2_ok, nmX2⟩
theorem k_3 : q_cl 3 RX3 TX3 := ⟨by decide, rfl, by
  have h : ∀ w ∈ u_ws RX3 TX3 2, w ∈ lw_tbl ∧ goodWord w = true := by decide +kernel
  intro w hw
  exact List.mem_filter.mpr (h w hw)⟩
theorem ty_3 : q_ty TX3 tyX3 (q_N 3) := ⟨tyX3_ok, nmX3⟩
theorem k_4 : q_cl 4 RX4 TX4 := ⟨by decide, rfl, by
  have h : ∀ w ∈ u_ws RX4 TX4 5, w ∈ lw_tbl ∧ goodWord w = true := by decide +kernel
  intro w hw
  exact List.mem_filter.mpr (h w hw)⟩
theorem ty_4 : q_ty TX4 tyX4 (q_N 4) := ⟨tyX4_ok, nmX4⟩
theorem k_5 : q_cl 5 RX5 TX5 := ⟨by decide, rfl, by
  have h : ∀ w ∈ u_ws RX5 TX5 10, w ∈ lw_tbl ∧ goodWord w = true := by decide +kernel
  intro w hw
  exact List.mem_filter.mpr (h w hw)⟩
theorem ty_5 : q_ty TX5 tyX5 (q_N 5) := ⟨tyX5_ok, nmX5⟩
theorem k_6 : q_cl 6 RX6 TX6 := ⟨by decide, rfl, by
  have h : ∀ w ∈ u_ws RX6 TX6 7, w ∈ lw_tbl ∧ goodWord w = true := by decide +kernel
  intro w hw
  exact List.mem_filter.mpr (h w hw)⟩
theorem ty_6 : q_ty TX6 tyX6 (q_N 6) := ⟨tyX6_ok, nmX6⟩
theorem k_7 : q_cl 7 RX7 TX7 := ⟨by decide, rfl, by
  have h : ∀ w ∈ u_ws RX7 TX7 2, w ∈ lw_tbl ∧ goodWord w = true := by decide +kernel
  intro w hw
  exact List.mem_filter.mpr (h w hw)⟩
theorem ty_7 : q_ty TX7 tyX7 (q_N 7) := ⟨tyX7_ok, nmX7⟩
theorem k_8 : q_cl 8 RX8 TX8 := ⟨by decide, rfl, by
  have h : ∀ w ∈ u_ws RX8 TX8 8, w ∈ lw_tbl ∧ goodWord w = true := by decide +kernel
  intro w hw
  exact List.mem_filter.mpr (h w hw)⟩
theorem ty_8 : q_ty TX8 tyX8 (q_N 8) := ⟨tyX8_ok, nmX8⟩
theorem k_9 : q_cl 9 RX9 TX9 := ⟨by decide, rfl, by
  have h : ∀ w ∈ u_ws RX9 TX9 4, w ∈ lw_tbl ∧ goodWord w = true := by decide +kernel
  intro w hw
  exact List.mem_filter.mpr (h w hw)⟩
theorem ty_9 : q_ty TX9 tyX9 (q_N 9) := ⟨tyX9_ok, nmX9⟩
theorem k_10 : q_cl 10 RX10 TX10 := ⟨by decide, rfl, by
  have h : ∀ w ∈ u_ws RX10 TX10 14, w ∈ lw_tbl ∧ goodWord w = true := by decide +kernel
  intro w hw
  exact List.mem_filter.mpr (h w hw)⟩
theorem ty_10 : q_ty TX10 tyX10 (q_N 10) := ⟨tyX10_ok, nmX10⟩
theorem k_11 : q_cl 11 RX11 TX11 := ⟨by decide, rfl, by
  have h : ∀ w ∈ u_ws RX11 TX11 13, w ∈ lw_tbl ∧ goodWord w = true := by decide +kernel
  intro w hw
  exact List.mem_filter.mpr (h w hw)⟩
theorem ty_11 : q_ty TX11 tyX11 (q_N 11) := ⟨tyX11_ok, nmX11⟩
theorem k_12 : q_cl 12 RX12 TX12 := ⟨by decide, rfl, by
  have h : ∀ w ∈ u_ws RX12 TX12 72, w ∈ lw_tbl ∧ goodWord w = true := by decide +kernel
  intro w hw
  exact List.mem_filter.mpr (h w hw)⟩
theorem ty_12 : q_ty TX12 tyX12 (q_N 12) := ⟨tyX12_ok, nmX12⟩
