abbrev P_X12_bits (w : Wi) (z : Wj) (s0 : Int32) : Int32 → WW → Prop := fun r_ u_ => r_ = (bits s0) ∧ u_ = (w, z)
set_option maxHeartbeats 4000000 in
set_option maxRecDepth 100000 in
theorem c_X12_bits (E : En) (hM : q_okM E) (w : Wi) (z : Wj) (s0 : Int32) : CtI M_X12_bits E [.int s0] w z (P_X12_bits w z s0) := by
  have hE := hM.1
  refine ctI_of (lv := [(0, .int s0)]) hE m_X12_bits (Nat.le_of_ble_eq_true rfl) rfl ?_
  intro K A C0
  have C : Cx K E A cX12_bits 3 RX12 (some .int) { frames := 0, cells := 0, slots := 0, locals := 0 } := C0
  clear C0
  refine v_iconst (v := 0) C dX12_bits_0 (by decide) ?_
  refine v_istore_n (lv2 := [(1, .int 0), (0, .int s0)]) C dX12_bits_1 rfl (by decide) rfl ?_
  refine v_iload_n C 1 dX12_bits_2 rfl ?_
  refine v_istore_n (lv2 := [(2, .int s0), (1, .int 0), (0, .int s0)]) C dX12_bits_3 rfl (by decide) rfl ?_
  have hL4 : ∀ (n_ : Nat) (n : Int32) (s : Int32), bvN s < n_ → (btR (bvN s) n s = bits s0) → V K E A 3 (QI K E A (P_X12_bits w z s0)) 4 [(2, .int s), (1, .int n), (0, .int s0)] [] w z := by
    intro n_
    induction n_ with
    | zero => intro n s hm_; exact absurd hm_ (Nat.not_lt_zero _)
    | succ n_ ih_4 =>
      intro n s hm_ hinv
      have g3 := hinv
      refine v_iload_n C 0 dX12_bits_4 rfl ?_
      refine v_if_eq C 20 dX12_bits_5 (by decide) (fun c_5 => ?_) (fun c_5 => ?_)
      · refine v_iload_n C 1 dX12_bits_20 rfl ?_
        exact v_iret C dX12_bits_21 ⟨(by clear C ih_4; rw [← g3, c_5]; rfl), (congr (congrArg Prod.mk rfl) rfl)⟩
      · refine v_iinc (v := n + 1) (lv2 := [(1, .int (n + 1)), (2, .int s), (0, .int s0)]) C 1 dX12_bits_8 rfl rfl (by decide) rfl ?_
        refine v_iload_n C 1 dX12_bits_11 rfl ?_
        refine v_iload_n C 1 dX12_bits_12 rfl ?_
        refine v_iconst (v := 1) C dX12_bits_13 (by decide) ?_
        refine v_isub C dX12_bits_14 ?_
        refine v_iand C dX12_bits_15 ?_
        refine v_istore_n (lv2 := [(2, .int (s &&& (s - 1))), (1, .int (n + 1)), (0, .int s0)]) C dX12_bits_16 rfl (by decide) rfl ?_
        refine v_goto C 4 dX12_bits_17 (by decide) ?_
        exact ih_4 (n + 1) (s &&& (s - 1)) (by clear C ih_4; exact Nat.lt_of_lt_of_le (bvN_lt (by assumption)) (Nat.le_of_lt_succ hm_)) (by clear C ih_4; have q := bvN_lt (s := s) (by assumption); rw [← g3, btR_eq (bvN s) (bvN s - 1 + 1) n s (Nat.le_refl _) (by omega)]; simp only [btR]; rw [if_neg (by assumption)]; exact btR_eq _ _ _ _ (Nat.le_refl _) (by omega))
  exact hL4 _ 0 s0 (Nat.lt_succ_self _) (by clear C hL4; rfl)
abbrev P_X12_parts (w : Wi) (z : Wj) (st : Int32) : Int32 → WW → Prop := fun r_ u_ => r_ = (ptF (w 64 0) ((w 1120 0 0)).toNatClampNeg st) ∧ u_ = (w, z)
set_option maxHeartbeats 4000000 in
set_option maxRecDepth 100000 in
theorem c_X12_parts (E : En) (hM : q_okM E) (w : Wi) (z : Wj) (st : Int32) (h1 : 0 ≤ (w 1120 0 0)) (h2 : (w 1120 0 0) ≤ 113) : CtI M_X12_parts E [.ref (E.ad 12 0), .int st] w z (P_X12_parts w z st) := by
  have hE := hM.1
  refine ctI_of (lv := [(0, .ref (E.ad 12 0)), (1, .int st)]) hE m_X12_parts (Nat.le_of_ble_eq_true rfl) rfl ?_
  intro K A C0
  have C : Cx K E A cX12_parts 4 RX12 (some .boolean) { frames := 0, cells := 0, slots := 0, locals := 0 } := C0
  clear C0
  refine v_iconst (v := 0) C dX12_parts_0 (by decide) ?_
  refine v_istore_n (lv2 := [(2, .int 0), (0, .ref (E.ad 12 0)), (1, .int st)]) C dX12_parts_1 rfl (by decide) rfl ?_
  have hL2 : ∀ (n_ : Nat) (i : Int32), (200 - i).toNatClampNeg < n_ → (0 ≤ i ∧ i ≤ (w 1120 0 0) ∧ ∀ i2, i2 < i.toNatClampNeg → ∀ j, j < i2 → ¬ (¬ (w 64 0) i2 = (w 64 0) j ∧ (w 64 0) i2 &&& st = (w 64 0) j &&& st)) → V K E A 4 (QI K E A (P_X12_parts w z st)) 2 [(2, .int i), (0, .ref (E.ad 12 0)), (1, .int st)] [] w z := by
    intro n_
    induction n_ with
    | zero => intro i hm_; exact absurd hm_ (Nat.not_lt_zero _)
    | succ n_ ih_2 =>
      intro i hm_ hinv
      obtain ⟨g1, g2, g3⟩ := hinv
      have hm1 := hm_
      refine v_iload_n C 0 dX12_parts_2 rfl ?_
      refine v_aload_n C 1 dX12_parts_3 rfl ?_
      refine v_gI C 12 0 60 1120 (w 1120 0 0) (hM.2 _ (u_12 0 (by decide))) k_12 (by decide) rfl rfl x_1302 rfl dX12_parts_4 ?_
      refine v_ic_ge C 65 dX12_parts_7 (by decide) (fun c_7 => ?_) (fun c_7 => ?_)
      · refine v_iconst (v := 1) C dX12_parts_65 (by decide) ?_
        exact v_zret C dX12_parts_66 (by decide) ⟨(by clear C ih_2; simp only [ptF]; rw [if_pos (by rw [show (w 1120 0 0) = i by clear g3; grind]; exact g3)]), (congr (congrArg Prod.mk rfl) rfl)⟩
      · refine v_iconst (v := 0) C dX12_parts_10 (by decide) ?_
        refine v_istore_n (lv2 := [(3, .int 0), (2, .int i), (0, .ref (E.ad 12 0)), (1, .int st)]) C dX12_parts_11 rfl (by decide) rfl ?_
        have hL12 : ∀ (n_ : Nat) (j : Int32), (200 - j).toNatClampNeg < n_ → (0 ≤ j ∧ j ≤ i ∧ ∀ j2, j2 < j.toNatClampNeg → ¬ (¬ (w 64 0) i.toNatClampNeg = (w 64 0) j2 ∧ (w 64 0) i.toNatClampNeg &&& st = (w 64 0) j2 &&& st)) → V K E A 4 (QI K E A (P_X12_parts w z st)) 12 [(3, .int j), (2, .int i), (0, .ref (E.ad 12 0)), (1, .int st)] [] w z := by
          intro n_
          induction n_ with
          | zero => intro j hm_; exact absurd hm_ (Nat.not_lt_zero _)
          | succ n_ ih_12 =>
            intro j hm_ hinv
            obtain ⟨g4, g5, g6⟩ := hinv
            refine v_iload_n C 0 dX12_parts_12 rfl ?_
            refine v_iload_n C 1 dX12_parts_13 rfl ?_
            refine v_ic_ge C 59 dX12_parts_14 (by decide) (fun c_14 => ?_) (fun c_14 => ?_)
            · refine v_iinc (v := i + 1) (lv2 := [(2, .int (i + 1)), (3, .int j), (0, .ref (E.ad 12 0)), (1, .int st)]) C 1 dX12_parts_59 rfl rfl (by decide) rfl ?_
              refine v_goto C 2 dX12_parts_62 (by decide) ?_
              refine v_l [0, 2, 3] rfl ?_
              exact ih_2 (i + 1) (by clear C ih_2 ih_12; exact Nat.lt_of_lt_of_le (m_up (by clear g3; grind) (by clear g3; grind)) (Nat.le_of_lt_succ hm1)) (by clear C ih_2 ih_12; refine ⟨by clear g3 g6; grind, by clear g3 g6; grind, fun i2 h j hj => ?_⟩; rw [cl_succ g1 (by clear g3 g6; grind)] at h; by_cases q : i2 = i.toNatClampNeg; (rw [q]; exact g6 j (by have := (cl_le g1 g4).mpr (by clear g3 g6; grind); omega)); exact g3 i2 (by omega) j hj)
            · refine v_aload_n C 2 dX12_parts_17 rfl ?_
              refine v_gR C 12 0 58 64 0 (hM.2 _ (u_12 0 (by decide))) k_12 (by decide) x_1300 (fun _ _ _ => rfl) dX12_parts_18 ?_
              refine v_iload_n C 1 dX12_parts_21 rfl ?_
              refine v_iald C 64 0 (hM.2 _ (u_64 0 (by decide))) ⟨by decide, rfl, rfl⟩ (by exact v_in (N := 113) (by decide) (by clear g3 g6; grind) (by clear g3 g6; grind)) dX12_parts_22 ?_
              refine v_aload_n C 2 dX12_parts_23 rfl ?_
              refine v_gR C 12 0 58 64 0 (hM.2 _ (u_12 0 (by decide))) k_12 (by decide) x_1300 (fun _ _ _ => rfl) dX12_parts_24 ?_
              refine v_iload_n C 0 dX12_parts_27 rfl ?_
              refine v_iald C 64 0 (hM.2 _ (u_64 0 (by decide))) ⟨by decide, rfl, rfl⟩ (by exact v_in (N := 113) (by decide) (by clear g3 g6; grind) (by clear g3 g6; grind)) dX12_parts_28 ?_
              refine v_ic_eq C 53 dX12_parts_29 (by decide) (fun c_29 => ?_) (fun c_29 => ?_)
              · refine v_iinc (v := j + 1) (lv2 := [(3, .int (j + 1)), (2, .int i), (0, .ref (E.ad 12 0)), (1, .int st)]) C 0 dX12_parts_53 rfl rfl (by decide) rfl ?_
                refine v_goto C 12 dX12_parts_56 (by decide) ?_
                exact ih_12 (j + 1) (by clear C ih_2 ih_12; exact Nat.lt_of_lt_of_le (m_up (by clear g3 g6; grind) (by clear g3 g6; grind)) (Nat.le_of_lt_succ hm_)) (by clear C ih_2 ih_12; refine ⟨by clear g3 g6; grind, by clear g3 g6; grind, fun j2 h => ?_⟩; rw [cl_succ g4 (by clear g3 g6; grind)] at h; by_cases q : j2 = j.toNatClampNeg; (rw [q]; clear g3 g6; grind); exact g6 j2 (by omega))
              · refine v_aload_n C 2 dX12_parts_32 rfl ?_
                refine v_gR C 12 0 58 64 0 (hM.2 _ (u_12 0 (by decide))) k_12 (by decide) x_1300 (fun _ _ _ => rfl) dX12_parts_33 ?_
                refine v_iload_n C 1 dX12_parts_36 rfl ?_
                refine v_iald C 64 0 (hM.2 _ (u_64 0 (by decide))) ⟨by decide, rfl, rfl⟩ (by exact v_in (N := 113) (by decide) (by clear g3 g6; grind) (by clear g3 g6; grind)) dX12_parts_37 ?_
                refine v_iload_n C 3 dX12_parts_38 rfl ?_
                refine v_iand C dX12_parts_39 ?_
                refine v_aload_n C 2 dX12_parts_40 rfl ?_
                refine v_gR C 12 0 58 64 0 (hM.2 _ (u_12 0 (by decide))) k_12 (by decide) x_1300 (fun _ _ _ => rfl) dX12_parts_41 ?_
                refine v_iload_n C 0 dX12_parts_44 rfl ?_
                refine v_iald C 64 0 (hM.2 _ (u_64 0 (by decide))) ⟨by decide, rfl, rfl⟩ (by exact v_in (N := 113) (by decide) (by clear g3 g6; grind) (by clear g3 g6; grind)) dX12_parts_45 ?_
                refine v_iload_n C 3 dX12_parts_46 rfl ?_
                refine v_iand C dX12_parts_47 ?_
                refine v_ic_ne C 53 dX12_parts_48 (by decide) (fun c_48 => ?_) (fun c_48 => ?_)
                · refine v_iinc (v := j + 1) (lv2 := [(3, .int (j + 1)), (2, .int i), (0, .ref (E.ad 12 0)), (1, .int st)]) C 0 dX12_parts_53 rfl rfl (by decide) rfl ?_
                  refine v_goto C 12 dX12_parts_56 (by decide) ?_
                  exact ih_12 (j + 1) (by clear C ih_2 ih_12; exact Nat.lt_of_lt_of_le (m_up (by clear g3 g6; grind) (by clear g3 g6; grind)) (Nat.le_of_lt_succ hm_)) (by clear C ih_2 ih_12; refine ⟨by clear g3 g6; grind, by clear g3 g6; grind, fun j2 h => ?_⟩; rw [cl_succ g4 (by clear g3 g6; grind)] at h; by_cases q : j2 = j.toNatClampNeg; (rw [q]; clear g3 g6; grind); exact g6 j2 (by omega))
                · refine v_iconst (v := 0) C dX12_parts_51 (by decide) ?_
                  exact v_zret C dX12_parts_52 (by decide) ⟨(by clear C ih_2 ih_12; simp only [ptF]; rw [if_neg (fun q => q _ ((cl_lt g1 h1).mpr (by clear g3 g6 q; grind)) _ ((cl_lt g4 g1).mpr (by clear g3 g6 q; grind)) ⟨by assumption, by assumption⟩)]), (congr (congrArg Prod.mk rfl) rfl)⟩
        exact hL12 _ 0 (Nat.lt_succ_self _) (by clear C ih_2 hL12; exact ⟨by decide, g1, fun i2 h => absurd h (Nat.not_lt_zero _)⟩)
  exact hL2 _ 0 (Nat.lt_succ_self _) (by clear C hL2; exact ⟨by decide, h1, fun i2 h => absurd h (Nat.not_lt_zero _)⟩)
