abbrev P_X12_hotNow (w : Wi) (z : Wj) : Int32 → WW → Prop := fun r_ u_ => r_ = (hotR (w 54 0) ((w 1074 0 0) + 1).toNatClampNeg) ∧ u_ = (w, z)
set_option maxHeartbeats 4000000 in
set_option maxRecDepth 100000 in
theorem c_X12_hotNow (E : En) (hM : q_okM E) (w : Wi) (z : Wj) (h1 : 1 ≤ (w 1074 0 0)) (h2 : (w 1074 0 0) ≤ 16) : CtI M_X12_hotNow E [.ref (E.ad 12 0)] w z (P_X12_hotNow w z) := by
  have hE := hM.1
  refine ctI_of (lv := [(0, .ref (E.ad 12 0))]) hE m_X12_hotNow (Nat.le_of_ble_eq_true rfl) rfl ?_
  intro K A C0
  have C : Cx K E A cX12_hotNow 3 RX12 (some .int) { frames := 0, cells := 0, slots := 0, locals := 0 } := C0
  clear C0
  refine v_iconst (v := 0) C dX12_hotNow_0 (by decide) ?_
  refine v_istore_n (lv2 := [(1, .int 0), (0, .ref (E.ad 12 0))]) C dX12_hotNow_1 rfl (by decide) rfl ?_
  refine v_iconst (v := 1) C dX12_hotNow_2 (by decide) ?_
  refine v_istore_n (lv2 := [(2, .int 1), (1, .int 0), (0, .ref (E.ad 12 0))]) C dX12_hotNow_3 rfl (by decide) rfl ?_
  have hL4 : ∀ (n_ : Nat) (s : Int32) (i : Int32), (17 - i).toNatClampNeg < n_ → (1 ≤ i ∧ i ≤ (w 1074 0 0) + 1 ∧ s = hotR (w 54 0) i.toNatClampNeg) → V K E A 3 (QI K E A (P_X12_hotNow w z)) 4 [(2, .int i), (1, .int s), (0, .ref (E.ad 12 0))] [] w z := by
    intro n_
    induction n_ with
    | zero => intro s i hm_; exact absurd hm_ (Nat.not_lt_zero _)
    | succ n_ ih_4 =>
      intro s i hm_ hinv
      obtain ⟨g1, g2, g3⟩ := hinv
      refine v_iload_n C 0 dX12_hotNow_4 rfl ?_
      refine v_aload_n C 2 dX12_hotNow_5 rfl ?_
      refine v_gI C 12 0 14 1074 (w 1074 0 0) (hM.2 _ (u_12 0 (by decide))) k_12 (by decide) rfl rfl x_1256 rfl dX12_hotNow_6 ?_
      refine v_ic_gt C 37 dX12_hotNow_9 (by decide) (fun c_9 => ?_) (fun c_9 => ?_)
      · refine v_iload_n C 1 dX12_hotNow_37 rfl ?_
        exact v_iret C dX12_hotNow_38 ⟨(by clear C ih_4; rw [show (w 1074 0 0) + 1 = i by grind]; exact g3), (congr (congrArg Prod.mk rfl) rfl)⟩
      · refine v_aload_n C 2 dX12_hotNow_12 rfl ?_
        refine v_gR C 12 0 36 54 0 (hM.2 _ (u_12 0 (by decide))) k_12 (by decide) x_1278 (fun _ _ _ => rfl) dX12_hotNow_13 ?_
        refine v_iload_n C 0 dX12_hotNow_16 rfl ?_
        refine v_iald C 54 0 (hM.2 _ (u_54 0 (by decide))) ⟨by decide, rfl, rfl⟩ (v_in (N := 17) (by decide) (by clear C ih_4; grind) (by clear C ih_4; grind)) dX12_hotNow_17 ?_
        refine v_bipush (v := 100) C dX12_hotNow_18 (by decide) ?_
        refine v_ic_lt C 31 dX12_hotNow_20 (by decide) (fun c_20 => ?_) (fun c_20 => ?_)
        · refine v_iinc (v := i + 1) (lv2 := [(2, .int (i + 1)), (1, .int s), (0, .ref (E.ad 12 0))]) C 0 dX12_hotNow_31 rfl rfl (by decide) rfl ?_
          refine v_goto C 4 dX12_hotNow_34 (by decide) ?_
          exact ih_4 s (i + 1) (by clear C ih_4; exact Nat.lt_of_lt_of_le (m_up (by grind) (by grind)) (Nat.le_of_lt_succ hm_)) (by clear C ih_4; exact ⟨by grind, by grind, by rw [cl_succ (by grind) (by grind), hotR_s g1]; grind⟩)
        · refine v_iload_n C 1 dX12_hotNow_23 rfl ?_
          refine v_iconst (v := 1) C dX12_hotNow_24 (by decide) ?_
          refine v_iload_n C 0 dX12_hotNow_25 rfl ?_
          refine v_iconst (v := 1) C dX12_hotNow_26 (by decide) ?_
          refine v_isub C dX12_hotNow_27 ?_
          refine v_ishl C dX12_hotNow_28 ?_
          refine v_ior C dX12_hotNow_29 ?_
          refine v_istore_n (lv2 := [(1, .int (s ||| (1 <<< ((i - 1) &&& 31)))), (2, .int i), (0, .ref (E.ad 12 0))]) C dX12_hotNow_30 rfl (by decide) rfl ?_
          refine v_iinc (v := i + 1) (lv2 := [(2, .int (i + 1)), (1, .int (s ||| (1 <<< ((i - 1) &&& 31)))), (0, .ref (E.ad 12 0))]) C 1 dX12_hotNow_31 rfl rfl (by decide) rfl ?_
          refine v_goto C 4 dX12_hotNow_34 (by decide) ?_
          exact ih_4 (s ||| (1 <<< ((i - 1) &&& 31))) (i + 1) (by clear C ih_4; exact Nat.lt_of_lt_of_le (m_up (by grind) (by grind)) (Nat.le_of_lt_succ hm_)) (by clear C ih_4; exact ⟨by grind, by grind, by rw [cl_succ (by grind) (by grind), hotR_s g1]; grind⟩)
  exact hL4 _ 0 1 (Nat.lt_succ_self _) (by clear C hL4; exact ⟨by decide, by grind, rfl⟩)
abbrev P_X12_guess (w : Wi) (z : Wj) (gu : Int32) : WW → Prop := fun u_ => u_ = ((wS (wS (wS (wS (wS (wS (wS (wS (wS (wS (wS (wS w 42 0 (L7 (w 42 0) (w 1080 0 0))) 46 0 (tkR (w 46 0) (L7 (w 42 0) (w 1080 0 0)) 0 (w 56 0) ((w 1074 0 0)).toNatClampNeg)) 47 0 (tkR (w 47 0) (L7 (w 42 0) (w 1080 0 0)) 64 (w 56 0) ((w 1074 0 0)).toNatClampNeg)) 48 0 (tkR (w 48 0) (L7 (w 42 0) (w 1080 0 0)) 96 (w 56 0) ((w 1074 0 0)).toNatClampNeg)) 49 0 (bndL (tkR (w 49 0) (L7 (w 42 0) (w 1080 0 0)) 128 (w 56 0) ((w 1074 0 0)).toNatClampNeg) gu)) 50 0 (bndH (tkR (w 50 0) (L7 (w 42 0) (w 1080 0 0)) 160 (w 56 0) ((w 1074 0 0)).toNatClampNeg) gu)) 51 0 (bndS (tkR (w 51 0) (L7 (w 42 0) (w 1080 0 0)) 192 (w 56 0) ((w 1074 0 0)).toNatClampNeg) gu)) 1080 0 (fun _ => 1)) 1098 0 (fun _ => wgR (L7 (w 42 0) (w 1080 0 0)) (w 56 0) ((w 1074 0 0)).toNatClampNeg)) 1099 0 (fun _ => 601)) 1100 0 (fun _ => 0)) 1101 0 (fun _ => 601)), z)
set_option maxHeartbeats 4000000 in
set_option maxRecDepth 100000 in
theorem c_X12_guess (E : En) (hM : q_okM E) (w : Wi) (z : Wj) (gu : Int32) (h1 : 1 ≤ (w 1074 0 0)) (h2 : (w 1074 0 0) ≤ 16) (h0 : (w 1080 0 0) = 0 ∨ (w 1080 0 0) = 1) (h9 : ∀ k, k < ((w 1074 0 0)).toNatClampNeg → 0 ≤ (w 56 0) k ∧ (w 56 0) k < 16) (hg : gu = 0 ∨ (1 ≤ gu / 10 ∧ gu / 10 ≤ (w 1074 0 0)) ∧ 0 ≤ gm gu ∧ gm gu ≤ 6) : CtV M_X12_guess E [.ref (E.ad 12 0), .int gu] w z (P_X12_guess w z gu) := by
  have hE := hM.1
  refine ctV_of (lv := [(0, .ref (E.ad 12 0)), (1, .int gu)]) hE m_X12_guess (Nat.le_of_ble_eq_true rfl) rfl ?_
  intro K A C0
  have C : Cx K E A cX12_guess 4 RX12 none { frames := 2, cells := 0, slots := 0, locals := 43 } := C0
  clear C0
  have hgm : gm gu = gu - gu / 10 * 10 := rfl
  refine v_aload_n C 0 dX12_guess_0 rfl ?_
  refine v_aload_n C 0 dX12_guess_1 rfl ?_
  refine v_gR C 12 0 42 56 0 (hM.2 _ (u_12 0 (by decide))) k_12 (by decide) x_1284 (fun _ _ _ => rfl) dX12_guess_2 ?_
  refine v_vV C 12 0 [.ref (E.ad 56 0)] 1 (c_X12_take_a E hM _ _    (by clear C; exact h1) (by clear C; exact h2) (by clear C; exact h0) (by clear C; exact h9)) m_X12_take_ x_1577 x_1579 x_53 p_X12_take_ rfl ⟨Nat.le_of_ble_eq_true rfl, Nat.le_of_ble_eq_true rfl⟩ (hM.2 _ (u_12 0 (by decide))) k_12 rfl (Nat.le_of_ble_eq_true rfl) dX12_guess_5 (fun u1 v1 hp1 => ?_)
  have hu1 := hp1
  cases hu1
  refine v_iload_n C 1 dX12_guess_8 rfl ?_
  refine v_if_ne C 13 dX12_guess_9 (by decide) (fun c_9 => ?_) (fun c_9 => ?_)
  · refine v_iload_n C 1 dX12_guess_13 rfl ?_
    refine v_bipush (v := 10) C dX12_guess_14 (by decide) ?_
    refine v_idiv C dX12_guess_16 (by decide) ?_
    refine v_istore_n (lv2 := [(2, .int (gu / 10)), (0, .ref (E.ad 12 0)), (1, .int gu)]) C dX12_guess_17 rfl (by decide) rfl ?_
    refine v_iload_n C 2 dX12_guess_18 rfl ?_
    refine v_bipush (v := 10) C dX12_guess_19 (by decide) ?_
    refine v_irem C dX12_guess_21 (by decide) ?_
    refine v_istore_n (lv2 := [(3, .int (gu - gu / 10 * 10)), (2, .int (gu / 10)), (0, .ref (E.ad 12 0)), (1, .int gu)]) C dX12_guess_22 rfl (by decide) rfl ?_
    refine v_iload_n C 0 dX12_guess_23 rfl ?_
    refine v_iconst (v := 3) C dX12_guess_24 (by decide) ?_
    refine v_ic_ge C 58 dX12_guess_25 (by decide) (fun c_25 => ?_) (fun c_25 => ?_)
    · refine v_iload_n C 0 dX12_guess_58 rfl ?_
      refine v_iconst (v := 5) C dX12_guess_59 (by decide) ?_
      refine v_ic_ge C 84 dX12_guess_60 (by decide) (fun c_60 => ?_) (fun c_60 => ?_)
      · have hL99 : ∀ (v : Int32), (v = (if gm gu = 5 then 1 else 2)) → V K E A 4 (QV K E A (P_X12_guess w z gu)) 99 [(3, .int (gu - gu / 10 * 10)), (2, .int (gu / 10)), (0, .ref (E.ad 12 0)), (1, .int gu)] [.int v, .int (gu / 10), .ref (E.ad 51 0)] (wS (wS (wS (wS (wS (wS (wS (wS (wS (wS (wS (wS w 42 0 (L7 (w 42 0) (w 1080 0 0))) 46 0 (tkR (w 46 0) (L7 (w 42 0) (w 1080 0 0)) 0 (w 56 0) ((w 1074 0 0)).toNatClampNeg)) 47 0 (tkR (w 47 0) (L7 (w 42 0) (w 1080 0 0)) 64 (w 56 0) ((w 1074 0 0)).toNatClampNeg)) 48 0 (tkR (w 48 0) (L7 (w 42 0) (w 1080 0 0)) 96 (w 56 0) ((w 1074 0 0)).toNatClampNeg)) 49 0 (tkR (w 49 0) (L7 (w 42 0) (w 1080 0 0)) 128 (w 56 0) ((w 1074 0 0)).toNatClampNeg)) 50 0 (tkR (w 50 0) (L7 (w 42 0) (w 1080 0 0)) 160 (w 56 0) ((w 1074 0 0)).toNatClampNeg)) 51 0 (tkR (w 51 0) (L7 (w 42 0) (w 1080 0 0)) 192 (w 56 0) ((w 1074 0 0)).toNatClampNeg)) 1080 0 (fun _ => 1)) 1098 0 (fun _ => wgR (L7 (w 42 0) (w 1080 0 0)) (w 56 0) ((w 1074 0 0)).toNatClampNeg)) 1099 0 (fun _ => 601)) 1100 0 (fun _ => 0)) 1101 0 (fun _ => 601)) z := by
          intro v hinv
          have e1 := hinv
          refine v_iast C 51 0 (hM.2 _ (u_51 0 (by decide))) ⟨by decide, rfl, rfl⟩ (by exact v_in (N := 17) (by decide) (by clear h9; grind) (by clear h9; grind)) dX12_guess_99 ?_
          refine v_w (w2 := (wS (wS (wS (wS (wS (wS (wS (wS (wS (wS (wS (wS w 42 0 (L7 (w 42 0) (w 1080 0 0))) 46 0 (tkR (w 46 0) (L7 (w 42 0) (w 1080 0 0)) 0 (w 56 0) ((w 1074 0 0)).toNatClampNeg)) 47 0 (tkR (w 47 0) (L7 (w 42 0) (w 1080 0 0)) 64 (w 56 0) ((w 1074 0 0)).toNatClampNeg)) 48 0 (tkR (w 48 0) (L7 (w 42 0) (w 1080 0 0)) 96 (w 56 0) ((w 1074 0 0)).toNatClampNeg)) 49 0 (tkR (w 49 0) (L7 (w 42 0) (w 1080 0 0)) 128 (w 56 0) ((w 1074 0 0)).toNatClampNeg)) 50 0 (tkR (w 50 0) (L7 (w 42 0) (w 1080 0 0)) 160 (w 56 0) ((w 1074 0 0)).toNatClampNeg)) 51 0 (upd (tkR (w 51 0) (L7 (w 42 0) (w 1080 0 0)) 192 (w 56 0) ((w 1074 0 0)).toNatClampNeg) (gu / 10).toNatClampNeg v)) 1080 0 (fun _ => 1)) 1098 0 (fun _ => wgR (L7 (w 42 0) (w 1080 0 0)) (w 56 0) ((w 1074 0 0)).toNatClampNeg)) 1099 0 (fun _ => 601)) 1100 0 (fun _ => 0)) 1101 0 (fun _ => 601))) (by simp only [wS_s, wS_t, wS_a, ne_eq, Nat.reduceEqDiff, not_false_eq_true, wS_wS, wS_p, wS_pp, Nat.reduceLT, id_eq, L7_1]) ?_
          exact v_vret C dX12_guess_100 (congr (congrArg Prod.mk (wS_eq (wS_eq (wS_eq (wS_eq (wS_eq (wS_eq (wS_eq (wS_eq (wS_eq (wS_eq (wS_eq (wS_eq rfl rfl) rfl) rfl) rfl) (by clear C; simp only [bndL, bndH, bndS]; clear h9; first | (rw [if_neg (by rw [hgm]; grind)]; done) | (rw [if_pos (by rw [hgm]; grind)]; first | done | rw [← e1]))) (by clear C; simp only [bndL, bndH, bndS]; clear h9; first | (rw [if_neg (by rw [hgm]; grind)]; done) | (rw [if_pos (by rw [hgm]; grind)]; first | done | rw [← e1]))) (by clear C; simp only [bndL, bndH, bndS]; clear h9; first | (rw [if_neg (by rw [hgm]; grind)]; done) | (rw [if_pos (by rw [hgm]; grind)]; first | done | rw [← e1]))) rfl) rfl) rfl) rfl) rfl)) rfl)
        refine v_aload_n C 2 dX12_guess_84 rfl ?_
        refine v_gR C 12 0 33 51 0 (hM.2 _ (u_12 0 (by decide))) k_12 (by decide) x_1275 (fun _ _ _ => rfl) dX12_guess_85 ?_
        refine v_iload_n C 1 dX12_guess_88 rfl ?_
        refine v_iload_n C 0 dX12_guess_89 rfl ?_
        refine v_iconst (v := 5) C dX12_guess_90 (by decide) ?_
        refine v_ic_ne C 98 dX12_guess_91 (by decide) (fun c_91 => ?_) (fun c_91 => ?_)
        · refine v_iconst (v := 2) C dX12_guess_98 (by decide) ?_
          exact hL99 2 (by clear C hL99; rw [hgm]; clear h9; grind)
        · refine v_iconst (v := 1) C dX12_guess_94 (by decide) ?_
          refine v_goto C 99 dX12_guess_95 (by decide) ?_
          exact hL99 1 (by clear C hL99; rw [hgm]; clear h9; grind)
      · have hL80 : ∀ (v : Int32), (v = (if gm gu = 3 then 10 else 30)) → V K E A 4 (QV K E A (P_X12_guess w z gu)) 80 [(3, .int (gu - gu / 10 * 10)), (2, .int (gu / 10)), (0, .ref (E.ad 12 0)), (1, .int gu)] [.int v, .int (gu / 10), .ref (E.ad 50 0)] (wS (wS (wS (wS (wS (wS (wS (wS (wS (wS (wS (wS w 42 0 (L7 (w 42 0) (w 1080 0 0))) 46 0 (tkR (w 46 0) (L7 (w 42 0) (w 1080 0 0)) 0 (w 56 0) ((w 1074 0 0)).toNatClampNeg)) 47 0 (tkR (w 47 0) (L7 (w 42 0) (w 1080 0 0)) 64 (w 56 0) ((w 1074 0 0)).toNatClampNeg)) 48 0 (tkR (w 48 0) (L7 (w 42 0) (w 1080 0 0)) 96 (w 56 0) ((w 1074 0 0)).toNatClampNeg)) 49 0 (tkR (w 49 0) (L7 (w 42 0) (w 1080 0 0)) 128 (w 56 0) ((w 1074 0 0)).toNatClampNeg)) 50 0 (tkR (w 50 0) (L7 (w 42 0) (w 1080 0 0)) 160 (w 56 0) ((w 1074 0 0)).toNatClampNeg)) 51 0 (tkR (w 51 0) (L7 (w 42 0) (w 1080 0 0)) 192 (w 56 0) ((w 1074 0 0)).toNatClampNeg)) 1080 0 (fun _ => 1)) 1098 0 (fun _ => wgR (L7 (w 42 0) (w 1080 0 0)) (w 56 0) ((w 1074 0 0)).toNatClampNeg)) 1099 0 (fun _ => 601)) 1100 0 (fun _ => 0)) 1101 0 (fun _ => 601)) z := by
          intro v hinv
          have e1 := hinv
          refine v_iast C 50 0 (hM.2 _ (u_50 0 (by decide))) ⟨by decide, rfl, rfl⟩ (by exact v_in (N := 17) (by decide) (by clear h9; grind) (by clear h9; grind)) dX12_guess_80 ?_
          refine v_goto C 100 dX12_guess_81 (by decide) ?_
          refine v_w (w2 := (wS (wS (wS (wS (wS (wS (wS (wS (wS (wS (wS (wS w 42 0 (L7 (w 42 0) (w 1080 0 0))) 46 0 (tkR (w 46 0) (L7 (w 42 0) (w 1080 0 0)) 0 (w 56 0) ((w 1074 0 0)).toNatClampNeg)) 47 0 (tkR (w 47 0) (L7 (w 42 0) (w 1080 0 0)) 64 (w 56 0) ((w 1074 0 0)).toNatClampNeg)) 48 0 (tkR (w 48 0) (L7 (w 42 0) (w 1080 0 0)) 96 (w 56 0) ((w 1074 0 0)).toNatClampNeg)) 49 0 (tkR (w 49 0) (L7 (w 42 0) (w 1080 0 0)) 128 (w 56 0) ((w 1074 0 0)).toNatClampNeg)) 50 0 (upd (tkR (w 50 0) (L7 (w 42 0) (w 1080 0 0)) 160 (w 56 0) ((w 1074 0 0)).toNatClampNeg) (gu / 10).toNatClampNeg v)) 51 0 (tkR (w 51 0) (L7 (w 42 0) (w 1080 0 0)) 192 (w 56 0) ((w 1074 0 0)).toNatClampNeg)) 1080 0 (fun _ => 1)) 1098 0 (fun _ => wgR (L7 (w 42 0) (w 1080 0 0)) (w 56 0) ((w 1074 0 0)).toNatClampNeg)) 1099 0 (fun _ => 601)) 1100 0 (fun _ => 0)) 1101 0 (fun _ => 601))) (by simp only [wS_s, wS_t, wS_a, ne_eq, Nat.reduceEqDiff, not_false_eq_true, wS_wS, wS_p, wS_pp, Nat.reduceLT, id_eq, L7_1]) ?_
          exact v_vret C dX12_guess_100 (congr (congrArg Prod.mk (wS_eq (wS_eq (wS_eq (wS_eq (wS_eq (wS_eq (wS_eq (wS_eq (wS_eq (wS_eq (wS_eq (wS_eq rfl rfl) rfl) rfl) rfl) (by clear C; simp only [bndL, bndH, bndS]; clear h9; first | (rw [if_neg (by rw [hgm]; grind)]; done) | (rw [if_pos (by rw [hgm]; grind)]; first | done | rw [← e1]))) (by clear C; simp only [bndL, bndH, bndS]; clear h9; first | (rw [if_neg (by rw [hgm]; grind)]; done) | (rw [if_pos (by rw [hgm]; grind)]; first | done | rw [← e1]))) (by clear C; simp only [bndL, bndH, bndS]; clear h9; first | (rw [if_neg (by rw [hgm]; grind)]; done) | (rw [if_pos (by rw [hgm]; grind)]; first | done | rw [← e1]))) rfl) rfl) rfl) rfl) rfl)) rfl)
        refine v_aload_n C 2 dX12_guess_63 rfl ?_
        refine v_gR C 12 0 32 50 0 (hM.2 _ (u_12 0 (by decide))) k_12 (by decide) x_1274 (fun _ _ _ => rfl) dX12_guess_64 ?_
        refine v_iload_n C 1 dX12_guess_67 rfl ?_
        refine v_iload_n C 0 dX12_guess_68 rfl ?_
        refine v_iconst (v := 3) C dX12_guess_69 (by decide) ?_
        refine v_ic_ne C 78 dX12_guess_70 (by decide) (fun c_70 => ?_) (fun c_70 => ?_)
        · refine v_bipush (v := 30) C dX12_guess_78 (by decide) ?_
          exact hL80 30 (by clear C hL80; rw [hgm]; clear h9; grind)
        · refine v_bipush (v := 10) C dX12_guess_73 (by decide) ?_
          refine v_goto C 80 dX12_guess_75 (by decide) ?_
          exact hL80 10 (by clear C hL80; rw [hgm]; clear h9; grind)
    · have hL54 : ∀ (v : Int32), (v = (if gm gu = 0 then 10 else if gm gu = 1 then 20 else 40)) → V K E A 4 (QV K E A (P_X12_guess w z gu)) 54 [(3, .int (gu - gu / 10 * 10)), (2, .int (gu / 10)), (0, .ref (E.ad 12 0)), (1, .int gu)] [.int v, .int (gu / 10), .ref (E.ad 49 0)] (wS (wS (wS (wS (wS (wS (wS (wS (wS (wS (wS (wS w 42 0 (L7 (w 42 0) (w 1080 0 0))) 46 0 (tkR (w 46 0) (L7 (w 42 0) (w 1080 0 0)) 0 (w 56 0) ((w 1074 0 0)).toNatClampNeg)) 47 0 (tkR (w 47 0) (L7 (w 42 0) (w 1080 0 0)) 64 (w 56 0) ((w 1074 0 0)).toNatClampNeg)) 48 0 (tkR (w 48 0) (L7 (w 42 0) (w 1080 0 0)) 96 (w 56 0) ((w 1074 0 0)).toNatClampNeg)) 49 0 (tkR (w 49 0) (L7 (w 42 0) (w 1080 0 0)) 128 (w 56 0) ((w 1074 0 0)).toNatClampNeg)) 50 0 (tkR (w 50 0) (L7 (w 42 0) (w 1080 0 0)) 160 (w 56 0) ((w 1074 0 0)).toNatClampNeg)) 51 0 (tkR (w 51 0) (L7 (w 42 0) (w 1080 0 0)) 192 (w 56 0) ((w 1074 0 0)).toNatClampNeg)) 1080 0 (fun _ => 1)) 1098 0 (fun _ => wgR (L7 (w 42 0) (w 1080 0 0)) (w 56 0) ((w 1074 0 0)).toNatClampNeg)) 1099 0 (fun _ => 601)) 1100 0 (fun _ => 0)) 1101 0 (fun _ => 601)) z := by
        intro v hinv
        have e1 := hinv
        refine v_iast C 49 0 (hM.2 _ (u_49 0 (by decide))) ⟨by decide, rfl, rfl⟩ (by exact v_in (N := 17) (by decide) (by clear h9; grind) (by clear h9; grind)) dX12_guess_54 ?_
        refine v_goto C 100 dX12_guess_55 (by decide) ?_
        refine v_w (w2 := (wS (wS (wS (wS (wS (wS (wS (wS (wS (wS (wS (wS w 42 0 (L7 (w 42 0) (w 1080 0 0))) 46 0 (tkR (w 46 0) (L7 (w 42 0) (w 1080 0 0)) 0 (w 56 0) ((w 1074 0 0)).toNatClampNeg)) 47 0 (tkR (w 47 0) (L7 (w 42 0) (w 1080 0 0)) 64 (w 56 0) ((w 1074 0 0)).toNatClampNeg)) 48 0 (tkR (w 48 0) (L7 (w 42 0) (w 1080 0 0)) 96 (w 56 0) ((w 1074 0 0)).toNatClampNeg)) 49 0 (upd (tkR (w 49 0) (L7 (w 42 0) (w 1080 0 0)) 128 (w 56 0) ((w 1074 0 0)).toNatClampNeg) (gu / 10).toNatClampNeg v)) 50 0 (tkR (w 50 0) (L7 (w 42 0) (w 1080 0 0)) 160 (w 56 0) ((w 1074 0 0)).toNatClampNeg)) 51 0 (tkR (w 51 0) (L7 (w 42 0) (w 1080 0 0)) 192 (w 56 0) ((w 1074 0 0)).toNatClampNeg)) 1080 0 (fun _ => 1)) 1098 0 (fun _ => wgR (L7 (w 42 0) (w 1080 0 0)) (w 56 0) ((w 1074 0 0)).toNatClampNeg)) 1099 0 (fun _ => 601)) 1100 0 (fun _ => 0)) 1101 0 (fun _ => 601))) (by simp only [wS_s, wS_t, wS_a, ne_eq, Nat.reduceEqDiff, not_false_eq_true, wS_wS, wS_p, wS_pp, Nat.reduceLT, id_eq, L7_1]) ?_
        exact v_vret C dX12_guess_100 (congr (congrArg Prod.mk (wS_eq (wS_eq (wS_eq (wS_eq (wS_eq (wS_eq (wS_eq (wS_eq (wS_eq (wS_eq (wS_eq (wS_eq rfl rfl) rfl) rfl) rfl) (by clear C; simp only [bndL, bndH, bndS]; clear h9; first | (rw [if_neg (by rw [hgm]; grind)]; done) | (rw [if_pos (by rw [hgm]; grind)]; first | done | rw [← e1]))) (by clear C; simp only [bndL, bndH, bndS]; clear h9; first | (rw [if_neg (by rw [hgm]; grind)]; done) | (rw [if_pos (by rw [hgm]; grind)]; first | done | rw [← e1]))) (by clear C; simp only [bndL, bndH, bndS]; clear h9; first | (rw [if_neg (by rw [hgm]; grind)]; done) | (rw [if_pos (by rw [hgm]; grind)]; first | done | rw [← e1]))) rfl) rfl) rfl) rfl) rfl)) rfl)
      refine v_aload_n C 2 dX12_guess_28 rfl ?_
      refine v_gR C 12 0 31 49 0 (hM.2 _ (u_12 0 (by decide))) k_12 (by decide) x_1273 (fun _ _ _ => rfl) dX12_guess_29 ?_
      refine v_iload_n C 1 dX12_guess_32 rfl ?_
      refine v_iload_n C 0 dX12_guess_33 rfl ?_
      refine v_if_ne C 42 dX12_guess_34 (by decide) (fun c_34 => ?_) (fun c_34 => ?_)
      · refine v_iload_n C 0 dX12_guess_42 rfl ?_
        refine v_iconst (v := 1) C dX12_guess_43 (by decide) ?_
        refine v_ic_ne C 52 dX12_guess_44 (by decide) (fun c_44 => ?_) (fun c_44 => ?_)
        · refine v_bipush (v := 40) C dX12_guess_52 (by decide) ?_
          exact hL54 40 (by clear C hL54; rw [hgm]; clear h9; grind)
        · refine v_bipush (v := 20) C dX12_guess_47 (by decide) ?_
          refine v_goto C 54 dX12_guess_49 (by decide) ?_
          exact hL54 20 (by clear C hL54; rw [hgm]; clear h9; grind)
      · refine v_bipush (v := 10) C dX12_guess_37 (by decide) ?_
        refine v_goto C 54 dX12_guess_39 (by decide) ?_
        exact hL54 10 (by clear C hL54; rw [hgm]; clear h9; grind)
  · exact v_vret C dX12_guess_12 (congr (congrArg Prod.mk (wS_eq (wS_eq (wS_eq (wS_eq (wS_eq (wS_eq (wS_eq (wS_eq (wS_eq (wS_eq (wS_eq (wS_eq rfl rfl) rfl) rfl) rfl) (by clear C; simp only [bndL, bndH, bndS]; clear h9; first | (rw [if_neg (by rw [hgm]; grind)]; done) | (rw [if_pos (by rw [hgm]; grind)]; first | done | rw [← e1]))) (by clear C; simp only [bndL, bndH, bndS]; clear h9; first | (rw [if_neg (by rw [hgm]; grind)]; done) | (rw [if_pos (by rw [hgm]; grind)]; first | done | rw [← e1]))) (by clear C; simp only [bndL, bndH, bndS]; clear h9; first | (rw [if_neg (by rw [hgm]; grind)]; done) | (rw [if_pos (by rw [hgm]; grind)]; first | done | rw [← e1]))) rfl) rfl) rfl) rfl) rfl)) rfl)
