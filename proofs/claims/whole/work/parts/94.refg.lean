abbrev P_X12_take_a (w : Wi) (z : Wj) : WW → Prop := fun u_ => u_ = ((wS (wS (wS (wS (wS (wS (wS (wS (wS (wS (wS (wS w 42 0 (L7 (w 42 0) (w 1080 0 0))) 46 0 (tkR (w 46 0) (L7 (w 42 0) (w 1080 0 0)) 0 (w 56 0) ((w 1074 0 0)).toNatClampNeg)) 47 0 (tkR (w 47 0) (L7 (w 42 0) (w 1080 0 0)) 64 (w 56 0) ((w 1074 0 0)).toNatClampNeg)) 48 0 (tkR (w 48 0) (L7 (w 42 0) (w 1080 0 0)) 96 (w 56 0) ((w 1074 0 0)).toNatClampNeg)) 49 0 (tkR (w 49 0) (L7 (w 42 0) (w 1080 0 0)) 128 (w 56 0) ((w 1074 0 0)).toNatClampNeg)) 50 0 (tkR (w 50 0) (L7 (w 42 0) (w 1080 0 0)) 160 (w 56 0) ((w 1074 0 0)).toNatClampNeg)) 51 0 (tkR (w 51 0) (L7 (w 42 0) (w 1080 0 0)) 192 (w 56 0) ((w 1074 0 0)).toNatClampNeg)) 1080 0 (fun _ => 1)) 1098 0 (fun _ => wgR (L7 (w 42 0) (w 1080 0 0)) (w 56 0) ((w 1074 0 0)).toNatClampNeg)) 1099 0 (fun _ => 601)) 1100 0 (fun _ => 0)) 1101 0 (fun _ => 601)), z)
set_option maxHeartbeats 4000000 in
set_option maxRecDepth 100000 in
theorem c_X12_take_a (E : En) (hM : q_okM E) (w : Wi) (z : Wj) (h1 : 1 ≤ (w 1074 0 0)) (h2 : (w 1074 0 0) ≤ 16) (h0 : (w 1080 0 0) = 0 ∨ (w 1080 0 0) = 1) (h3 : ∀ k, k < ((w 1074 0 0)).toNatClampNeg → 0 ≤ (w 56 0) k ∧ (w 56 0) k < 16) : CtV M_X12_take_ E [.ref (E.ad 12 0), .ref (E.ad 56 0)] w z (P_X12_take_a w z) := by
  have hE := hM.1
  refine ctV_of (lv := [(0, .ref (E.ad 12 0)), (1, .ref (E.ad 56 0))]) hE m_X12_take_ (Nat.le_of_ble_eq_true rfl) rfl ?_
  intro K A C0
  have C : Cx K E A cX12_take_ 4 RX12 none { frames := 1, cells := 0, slots := 0, locals := 20 } := C0
  clear C0
  refine v_aload_n C 0 dX12_take__0 rfl ?_
  refine v_vV C 12 0 [] 0 (c_X12_lay E hM _ _    (by clear C; exact h0)) m_X12_lay x_1479 x_1481 x_36 p_X12_lay rfl ⟨Nat.le_of_ble_eq_true rfl, Nat.le_of_ble_eq_true rfl⟩ (hM.2 _ (u_12 0 (by decide))) k_12 rfl (Nat.le_of_ble_eq_true rfl) dX12_take__1 (fun u1 v1 hp1 => ?_)
  have hu1 := hp1
  cases hu1
  refine v_aload_n C 0 dX12_take__4 rfl ?_
  refine v_bipush (v := 90) C dX12_take__5 (by decide) ?_
  refine v_pI C 12 0 38 1098 (hM.2 _ (u_12 0 (by decide))) k_12 ty_12 (by decide) rfl ⟨rfl, rfl⟩ x_1280 rfl rfl dX12_take__7 ?_
  refine v_iconst (v := 1) C dX12_take__10 (by decide) ?_
  refine v_istore_n (lv2 := [(2, .int 1), (0, .ref (E.ad 12 0)), (1, .ref (E.ad 56 0))]) C dX12_take__11 rfl (by decide) rfl ?_
  have hL12 : ∀ (n_ : Nat) (i : Int32) (wg : Int32) (rsort : Row) (rout : Row) (rkeep : Row) (rleak : Row) (rhose : Row) (rstuck : Row), (17 - i).toNatClampNeg < n_ → (1 ≤ i ∧ i ≤ (w 1074 0 0) + 1 ∧ wg = wgR (L7 (w 42 0) (w 1080 0 0)) (w 56 0) (i - 1).toNatClampNeg ∧ rsort = tkR (w 46 0) (L7 (w 42 0) (w 1080 0 0)) 0 (w 56 0) (i - 1).toNatClampNeg ∧ rout = tkR (w 47 0) (L7 (w 42 0) (w 1080 0 0)) 64 (w 56 0) (i - 1).toNatClampNeg ∧ rkeep = tkR (w 48 0) (L7 (w 42 0) (w 1080 0 0)) 96 (w 56 0) (i - 1).toNatClampNeg ∧ rleak = tkR (w 49 0) (L7 (w 42 0) (w 1080 0 0)) 128 (w 56 0) (i - 1).toNatClampNeg ∧ rhose = tkR (w 50 0) (L7 (w 42 0) (w 1080 0 0)) 160 (w 56 0) (i - 1).toNatClampNeg ∧ rstuck = tkR (w 51 0) (L7 (w 42 0) (w 1080 0 0)) 192 (w 56 0) (i - 1).toNatClampNeg) → V K E A 4 (QV K E A (P_X12_take_a w z)) 12 [(2, .int i), (0, .ref (E.ad 12 0)), (1, .ref (E.ad 56 0))] [] (wS (wS (wS (wS (wS (wS (wS (wS (wS w 42 0 (L7 (w 42 0) (w 1080 0 0))) 46 0 rsort) 47 0 rout) 48 0 rkeep) 49 0 rleak) 50 0 rhose) 51 0 rstuck) 1080 0 (fun _ => 1)) 1098 0 (fun _ => wg)) z := by
    intro n_
    induction n_ with
    | zero => intro i wg rsort rout rkeep rleak rhose rstuck hm_; exact absurd hm_ (Nat.not_lt_zero _)
    | succ n_ ih_12 =>
      intro i wg rsort rout rkeep rleak rhose rstuck hm_ hinv
      obtain ⟨g1, g2, ew, esort, eout, ekeep, eleak, ehose, estuck⟩ := hinv
      have p1 := cl_pred g1
      have hc : i ≤ (w 1074 0 0) → 0 ≤ (w 56 0) (i - 1).toNatClampNeg ∧ (w 56 0) (i - 1).toNatClampNeg < 16 := fun q => h3 _ ((cl_lt (by clear esort eout ekeep eleak ehose estuck ew; grind) (by clear esort eout ekeep eleak ehose estuck ew; grind)).mpr (by clear esort eout ekeep eleak ehose estuck ew; grind))
      refine v_iload_n C 0 dX12_take__12 rfl ?_
      refine v_aload_n C 1 dX12_take__13 rfl ?_
      refine v_gI C 12 0 14 1074 (w 1074 0 0) (hM.2 _ (u_12 0 (by decide))) k_12 (by decide) rfl rfl x_1256 (by simp only [wS_s, wS_t, wS_a, ne_eq, Nat.reduceEqDiff, not_false_eq_true, L7_1]) dX12_take__14 ?_
      refine v_ic_gt C 142 dX12_take__17 (by decide) (fun c_17 => ?_) (fun c_17 => ?_)
      · refine v_aload_n C 1 dX12_take__142 rfl ?_
        refine v_sipush (v := 601) C dX12_take__143 (by decide) ?_
        refine v_pI C 12 0 39 1099 (hM.2 _ (u_12 0 (by decide))) k_12 ty_12 (by decide) rfl ⟨rfl, rfl⟩ x_1281 rfl rfl dX12_take__146 ?_
        refine v_aload_n C 1 dX12_take__149 rfl ?_
        refine v_sipush (v := 601) C dX12_take__150 (by decide) ?_
        refine v_pI C 12 0 41 1101 (hM.2 _ (u_12 0 (by decide))) k_12 ty_12 (by decide) rfl ⟨rfl, rfl⟩ x_1283 rfl rfl dX12_take__153 ?_
        refine v_aload_n C 1 dX12_take__156 rfl ?_
        refine v_iconst (v := 0) C dX12_take__157 (by decide) ?_
        refine v_pI C 12 0 40 1100 (hM.2 _ (u_12 0 (by decide))) k_12 ty_12 (by decide) rfl ⟨rfl, rfl⟩ x_1282 rfl rfl dX12_take__158 ?_
        refine v_w (w2 := (wS (wS (wS (wS (wS (wS (wS (wS (wS (wS (wS (wS w 42 0 (L7 (w 42 0) (w 1080 0 0))) 46 0 rsort) 47 0 rout) 48 0 rkeep) 49 0 rleak) 50 0 rhose) 51 0 rstuck) 1080 0 (fun _ => 1)) 1098 0 (fun _ => wg)) 1099 0 (fun _ => 601)) 1100 0 (fun _ => 0)) 1101 0 (fun _ => 601))) (by simp only [wS_s, wS_t, wS_a, ne_eq, Nat.reduceEqDiff, not_false_eq_true, wS_wS, wS_p, wS_pp, Nat.reduceLT, id_eq, L7_1]) ?_
        have hi : (w 1074 0 0) = i - 1 := (by clear esort eout ekeep eleak ehose estuck ew hc; grind)
        exact v_vret C dX12_take__161 (congr (congrArg Prod.mk (wS_eq (wS_eq (wS_eq (wS_eq (wS_eq (wS_eq (wS_eq (wS_eq (wS_eq (wS_eq (wS_eq (wS_eq rfl rfl) (by clear C ih_12; rw [hi]; assumption)) (by clear C ih_12; rw [hi]; assumption)) (by clear C ih_12; rw [hi]; assumption)) (by clear C ih_12; rw [hi]; assumption)) (by clear C ih_12; rw [hi]; assumption)) (by clear C ih_12; rw [hi]; assumption)) rfl) (fu_eq (by clear C ih_12; rw [hi]; assumption))) rfl) rfl) rfl)) rfl)
      · refine v_aload_n C 2 dX12_take__20 rfl ?_
        refine v_iload_n C 0 dX12_take__21 rfl ?_
        refine v_iconst (v := 1) C dX12_take__22 (by decide) ?_
        refine v_isub C dX12_take__23 ?_
        refine v_iald C 56 0 (hM.2 _ (u_56 0 (by decide))) ⟨by decide, rfl, rfl⟩ (by exact v_in (N := 16) (by decide) (by grind) (by grind)) dX12_take__24 ?_
        refine v_i (y := ((w 56 0) (i - 1).toNatClampNeg)) (by simp only [wS_s, wS_t, wS_a, ne_eq, Nat.reduceEqDiff, not_false_eq_true, L7_1]) ?_
        refine v_istore_n (lv2 := [(3, .int ((w 56 0) (i - 1).toNatClampNeg)), (2, .int i), (0, .ref (E.ad 12 0)), (1, .ref (E.ad 56 0))]) C dX12_take__25 rfl (by decide) rfl ?_
        refine v_aload_n C 2 dX12_take__26 rfl ?_
        refine v_gR C 12 0 28 46 0 (hM.2 _ (u_12 0 (by decide))) k_12 (by decide) x_1270 (fun _ _ _ => rfl) dX12_take__27 ?_
        refine v_iload_n C 1 dX12_take__30 rfl ?_
        refine v_aload_n C 2 dX12_take__31 rfl ?_
        refine v_gR C 12 0 13 42 0 (hM.2 _ (u_12 0 (by decide))) k_12 (by decide) x_1255 (fun _ _ _ => rfl) dX12_take__32 ?_
        refine v_iconst (v := 0) C dX12_take__35 (by decide) ?_
        refine v_iload_n C 0 dX12_take__36 rfl ?_
        refine v_iadd C dX12_take__37 ?_
        refine v_iald C 42 0 (hM.2 _ (u_42 0 (by decide))) ⟨by decide, rfl, rfl⟩ (off_in (K := 224) (hc (by clear esort eout ekeep eleak ehose estuck ew hc; grind)).1 (hc (by clear esort eout ekeep eleak ehose estuck ew hc; grind)).2 (show (0 : Int32) ≤ 0 by decide) (by decide) (by decide) (by decide)).1 dX12_take__38 ?_
        refine v_i (y := ((L7 (w 42 0) (w 1080 0 0)) (0 + ((w 56 0) (i - 1).toNatClampNeg)).toNatClampNeg)) (by simp only [wS_s, wS_t, wS_a, ne_eq, Nat.reduceEqDiff, not_false_eq_true, L7_1]) ?_
        refine v_iast C 46 0 (hM.2 _ (u_46 0 (by decide))) ⟨by decide, rfl, rfl⟩ (by exact v_in (N := 17) (by decide) (by grind) (by grind)) dX12_take__39 ?_
        refine v_aload_n C 2 dX12_take__40 rfl ?_
        refine v_dup C dX12_take__41 rfl ?_
        refine v_gI C 12 0 38 1098 wg (hM.2 _ (u_12 0 (by decide))) k_12 (by decide) rfl rfl x_1280 (by simp only [wS_s, wS_t, wS_a, ne_eq, Nat.reduceEqDiff, not_false_eq_true, L7_1]) dX12_take__42 ?_
        refine v_aload_n C 2 dX12_take__45 rfl ?_
        refine v_gR C 12 0 13 42 0 (hM.2 _ (u_12 0 (by decide))) k_12 (by decide) x_1255 (fun _ _ _ => rfl) dX12_take__46 ?_
        refine v_bipush (v := 32) C dX12_take__49 (by decide) ?_
        refine v_iload_n C 0 dX12_take__51 rfl ?_
        refine v_iadd C dX12_take__52 ?_
        refine v_iald C 42 0 (hM.2 _ (u_42 0 (by decide))) ⟨by decide, rfl, rfl⟩ (off_in (K := 224) (hc (by clear esort eout ekeep eleak ehose estuck ew hc; grind)).1 (hc (by clear esort eout ekeep eleak ehose estuck ew hc; grind)).2 (show (0 : Int32) ≤ 32 by decide) (by decide) (by decide) (by decide)).1 dX12_take__53 ?_
        refine v_i (y := ((L7 (w 42 0) (w 1080 0 0)) (32 + ((w 56 0) (i - 1).toNatClampNeg)).toNatClampNeg)) (by simp only [wS_s, wS_t, wS_a, ne_eq, Nat.reduceEqDiff, not_false_eq_true, L7_1]) ?_
        refine v_iadd C dX12_take__54 ?_
        refine v_pI C 12 0 38 1098 (hM.2 _ (u_12 0 (by decide))) k_12 ty_12 (by decide) rfl ⟨rfl, rfl⟩ x_1280 rfl rfl dX12_take__55 ?_
        refine v_aload_n C 2 dX12_take__58 rfl ?_
        refine v_gR C 12 0 29 47 0 (hM.2 _ (u_12 0 (by decide))) k_12 (by decide) x_1271 (fun _ _ _ => rfl) dX12_take__59 ?_
        refine v_iload_n C 1 dX12_take__62 rfl ?_
        refine v_aload_n C 2 dX12_take__63 rfl ?_
        refine v_gR C 12 0 13 42 0 (hM.2 _ (u_12 0 (by decide))) k_12 (by decide) x_1255 (fun _ _ _ => rfl) dX12_take__64 ?_
        refine v_bipush (v := 64) C dX12_take__67 (by decide) ?_
        refine v_iload_n C 0 dX12_take__69 rfl ?_
        refine v_iadd C dX12_take__70 ?_
        refine v_iald C 42 0 (hM.2 _ (u_42 0 (by decide))) ⟨by decide, rfl, rfl⟩ (off_in (K := 224) (hc (by clear esort eout ekeep eleak ehose estuck ew hc; grind)).1 (hc (by clear esort eout ekeep eleak ehose estuck ew hc; grind)).2 (show (0 : Int32) ≤ 64 by decide) (by decide) (by decide) (by decide)).1 dX12_take__71 ?_
        refine v_i (y := ((L7 (w 42 0) (w 1080 0 0)) (64 + ((w 56 0) (i - 1).toNatClampNeg)).toNatClampNeg)) (by simp only [wS_s, wS_t, wS_a, ne_eq, Nat.reduceEqDiff, not_false_eq_true, L7_1]) ?_
        refine v_iast C 47 0 (hM.2 _ (u_47 0 (by decide))) ⟨by decide, rfl, rfl⟩ (by exact v_in (N := 17) (by decide) (by grind) (by grind)) dX12_take__72 ?_
        refine v_aload_n C 2 dX12_take__73 rfl ?_
        refine v_gR C 12 0 30 48 0 (hM.2 _ (u_12 0 (by decide))) k_12 (by decide) x_1272 (fun _ _ _ => rfl) dX12_take__74 ?_
        refine v_iload_n C 1 dX12_take__77 rfl ?_
        refine v_aload_n C 2 dX12_take__78 rfl ?_
        refine v_gR C 12 0 13 42 0 (hM.2 _ (u_12 0 (by decide))) k_12 (by decide) x_1255 (fun _ _ _ => rfl) dX12_take__79 ?_
        refine v_bipush (v := 96) C dX12_take__82 (by decide) ?_
        refine v_iload_n C 0 dX12_take__84 rfl ?_
        refine v_iadd C dX12_take__85 ?_
        refine v_iald C 42 0 (hM.2 _ (u_42 0 (by decide))) ⟨by decide, rfl, rfl⟩ (off_in (K := 224) (hc (by clear esort eout ekeep eleak ehose estuck ew hc; grind)).1 (hc (by clear esort eout ekeep eleak ehose estuck ew hc; grind)).2 (show (0 : Int32) ≤ 96 by decide) (by decide) (by decide) (by decide)).1 dX12_take__86 ?_
        refine v_i (y := ((L7 (w 42 0) (w 1080 0 0)) (96 + ((w 56 0) (i - 1).toNatClampNeg)).toNatClampNeg)) (by simp only [wS_s, wS_t, wS_a, ne_eq, Nat.reduceEqDiff, not_false_eq_true, L7_1]) ?_
        refine v_iast C 48 0 (hM.2 _ (u_48 0 (by decide))) ⟨by decide, rfl, rfl⟩ (by exact v_in (N := 17) (by decide) (by grind) (by grind)) dX12_take__87 ?_
        refine v_aload_n C 2 dX12_take__88 rfl ?_
        refine v_gR C 12 0 31 49 0 (hM.2 _ (u_12 0 (by decide))) k_12 (by decide) x_1273 (fun _ _ _ => rfl) dX12_take__89 ?_
        refine v_iload_n C 1 dX12_take__92 rfl ?_
        refine v_aload_n C 2 dX12_take__93 rfl ?_
        refine v_gR C 12 0 13 42 0 (hM.2 _ (u_12 0 (by decide))) k_12 (by decide) x_1255 (fun _ _ _ => rfl) dX12_take__94 ?_
        refine v_sipush (v := 128) C dX12_take__97 (by decide) ?_
        refine v_iload_n C 0 dX12_take__100 rfl ?_
        refine v_iadd C dX12_take__101 ?_
        refine v_iald C 42 0 (hM.2 _ (u_42 0 (by decide))) ⟨by decide, rfl, rfl⟩ (off_in (K := 224) (hc (by clear esort eout ekeep eleak ehose estuck ew hc; grind)).1 (hc (by clear esort eout ekeep eleak ehose estuck ew hc; grind)).2 (show (0 : Int32) ≤ 128 by decide) (by decide) (by decide) (by decide)).1 dX12_take__102 ?_
        refine v_i (y := ((L7 (w 42 0) (w 1080 0 0)) (128 + ((w 56 0) (i - 1).toNatClampNeg)).toNatClampNeg)) (by simp only [wS_s, wS_t, wS_a, ne_eq, Nat.reduceEqDiff, not_false_eq_true, L7_1]) ?_
        refine v_iast C 49 0 (hM.2 _ (u_49 0 (by decide))) ⟨by decide, rfl, rfl⟩ (by exact v_in (N := 17) (by decide) (by grind) (by grind)) dX12_take__103 ?_
        refine v_aload_n C 2 dX12_take__104 rfl ?_
        refine v_gR C 12 0 32 50 0 (hM.2 _ (u_12 0 (by decide))) k_12 (by decide) x_1274 (fun _ _ _ => rfl) dX12_take__105 ?_
        refine v_iload_n C 1 dX12_take__108 rfl ?_
        refine v_aload_n C 2 dX12_take__109 rfl ?_
        refine v_gR C 12 0 13 42 0 (hM.2 _ (u_12 0 (by decide))) k_12 (by decide) x_1255 (fun _ _ _ => rfl) dX12_take__110 ?_
        refine v_sipush (v := 160) C dX12_take__113 (by decide) ?_
        refine v_iload_n C 0 dX12_take__116 rfl ?_
        refine v_iadd C dX12_take__117 ?_
        refine v_iald C 42 0 (hM.2 _ (u_42 0 (by decide))) ⟨by decide, rfl, rfl⟩ (off_in (K := 224) (hc (by clear esort eout ekeep eleak ehose estuck ew hc; grind)).1 (hc (by clear esort eout ekeep eleak ehose estuck ew hc; grind)).2 (show (0 : Int32) ≤ 160 by decide) (by decide) (by decide) (by decide)).1 dX12_take__118 ?_
        refine v_i (y := ((L7 (w 42 0) (w 1080 0 0)) (160 + ((w 56 0) (i - 1).toNatClampNeg)).toNatClampNeg)) (by simp only [wS_s, wS_t, wS_a, ne_eq, Nat.reduceEqDiff, not_false_eq_true, L7_1]) ?_
        refine v_iast C 50 0 (hM.2 _ (u_50 0 (by decide))) ⟨by decide, rfl, rfl⟩ (by exact v_in (N := 17) (by decide) (by grind) (by grind)) dX12_take__119 ?_
        refine v_aload_n C 2 dX12_take__120 rfl ?_
        refine v_gR C 12 0 33 51 0 (hM.2 _ (u_12 0 (by decide))) k_12 (by decide) x_1275 (fun _ _ _ => rfl) dX12_take__121 ?_
        refine v_iload_n C 1 dX12_take__124 rfl ?_
        refine v_aload_n C 2 dX12_take__125 rfl ?_
        refine v_gR C 12 0 13 42 0 (hM.2 _ (u_12 0 (by decide))) k_12 (by decide) x_1255 (fun _ _ _ => rfl) dX12_take__126 ?_
        refine v_sipush (v := 192) C dX12_take__129 (by decide) ?_
        refine v_iload_n C 0 dX12_take__132 rfl ?_
        refine v_iadd C dX12_take__133 ?_
        refine v_iald C 42 0 (hM.2 _ (u_42 0 (by decide))) ⟨by decide, rfl, rfl⟩ (off_in (K := 224) (hc (by clear esort eout ekeep eleak ehose estuck ew hc; grind)).1 (hc (by clear esort eout ekeep eleak ehose estuck ew hc; grind)).2 (show (0 : Int32) ≤ 192 by decide) (by decide) (by decide) (by decide)).1 dX12_take__134 ?_
        refine v_i (y := ((L7 (w 42 0) (w 1080 0 0)) (192 + ((w 56 0) (i - 1).toNatClampNeg)).toNatClampNeg)) (by simp only [wS_s, wS_t, wS_a, ne_eq, Nat.reduceEqDiff, not_false_eq_true, L7_1]) ?_
        refine v_iast C 51 0 (hM.2 _ (u_51 0 (by decide))) ⟨by decide, rfl, rfl⟩ (by exact v_in (N := 17) (by decide) (by grind) (by grind)) dX12_take__135 ?_
        refine v_iinc (v := i + 1) (lv2 := [(2, .int (i + 1)), (3, .int ((w 56 0) (i - 1).toNatClampNeg)), (0, .ref (E.ad 12 0)), (1, .ref (E.ad 56 0))]) C 1 dX12_take__136 rfl rfl (by decide) rfl ?_
        refine v_goto C 12 dX12_take__139 (by decide) ?_
        refine v_w (w2 := (wS (wS (wS (wS (wS (wS (wS (wS (wS w 42 0 (L7 (w 42 0) (w 1080 0 0))) 46 0 (upd rsort i.toNatClampNeg ((L7 (w 42 0) (w 1080 0 0)) (0 + ((w 56 0) (i - 1).toNatClampNeg)).toNatClampNeg))) 47 0 (upd rout i.toNatClampNeg ((L7 (w 42 0) (w 1080 0 0)) (64 + ((w 56 0) (i - 1).toNatClampNeg)).toNatClampNeg))) 48 0 (upd rkeep i.toNatClampNeg ((L7 (w 42 0) (w 1080 0 0)) (96 + ((w 56 0) (i - 1).toNatClampNeg)).toNatClampNeg))) 49 0 (upd rleak i.toNatClampNeg ((L7 (w 42 0) (w 1080 0 0)) (128 + ((w 56 0) (i - 1).toNatClampNeg)).toNatClampNeg))) 50 0 (upd rhose i.toNatClampNeg ((L7 (w 42 0) (w 1080 0 0)) (160 + ((w 56 0) (i - 1).toNatClampNeg)).toNatClampNeg))) 51 0 (upd rstuck i.toNatClampNeg ((L7 (w 42 0) (w 1080 0 0)) (192 + ((w 56 0) (i - 1).toNatClampNeg)).toNatClampNeg))) 1080 0 (fun _ => 1)) 1098 0 (fun _ => (wg + ((L7 (w 42 0) (w 1080 0 0)) (32 + ((w 56 0) (i - 1).toNatClampNeg)).toNatClampNeg))))) (by simp only [wS_s, wS_t, wS_a, ne_eq, Nat.reduceEqDiff, not_false_eq_true, wS_wS, wS_p, wS_pp, Nat.reduceLT, id_eq, L7_1]) ?_
        refine v_l [0, 2, 3] rfl ?_
        exact ih_12 (i + 1) (wg + ((L7 (w 42 0) (w 1080 0 0)) (32 + ((w 56 0) (i - 1).toNatClampNeg)).toNatClampNeg)) (upd rsort i.toNatClampNeg ((L7 (w 42 0) (w 1080 0 0)) (0 + ((w 56 0) (i - 1).toNatClampNeg)).toNatClampNeg)) (upd rout i.toNatClampNeg ((L7 (w 42 0) (w 1080 0 0)) (64 + ((w 56 0) (i - 1).toNatClampNeg)).toNatClampNeg)) (upd rkeep i.toNatClampNeg ((L7 (w 42 0) (w 1080 0 0)) (96 + ((w 56 0) (i - 1).toNatClampNeg)).toNatClampNeg)) (upd rleak i.toNatClampNeg ((L7 (w 42 0) (w 1080 0 0)) (128 + ((w 56 0) (i - 1).toNatClampNeg)).toNatClampNeg)) (upd rhose i.toNatClampNeg ((L7 (w 42 0) (w 1080 0 0)) (160 + ((w 56 0) (i - 1).toNatClampNeg)).toNatClampNeg)) (upd rstuck i.toNatClampNeg ((L7 (w 42 0) (w 1080 0 0)) (192 + ((w 56 0) (i - 1).toNatClampNeg)).toNatClampNeg)) (by clear C ih_12; exact Nat.lt_of_lt_of_le (m_up (by clear esort eout ekeep eleak ehose estuck ew hc; grind) (by clear esort eout ekeep eleak ehose estuck ew hc; grind)) (Nat.le_of_lt_succ hm_)) (by clear C ih_12; have q := hc (by clear esort eout ekeep eleak ehose estuck ew hc; grind); have z1 : (i + 1 - 1).toNatClampNeg = (i - 1).toNatClampNeg + 1 := (by rw [show i + 1 - 1 = i - 1 + 1 by grind, cl_succ (by clear esort eout ekeep eleak ehose estuck ew hc q; grind) (by clear esort eout ekeep eleak ehose estuck ew hc q; grind)]); have z2 : (i - 1).toNatClampNeg + 1 = i.toNatClampNeg := (by have := cl_pos g1; omega); refine ⟨by clear esort eout ekeep eleak ehose estuck ew hc q; grind, by clear esort eout ekeep eleak ehose estuck ew hc q; grind, ?_, by (rw [z1, z2, esort, (off_in (K := 224) q.1 q.2 (show (0 : Int32) ≤ 0 by decide) (by decide) (by decide) (by decide)).2, ← tkR_s _ _ _ _ (cl_pos g1), p1]; first | done | rfl), by (rw [z1, z2, eout, (off_in (K := 224) q.1 q.2 (show (0 : Int32) ≤ 64 by decide) (by decide) (by decide) (by decide)).2, ← tkR_s _ _ _ _ (cl_pos g1), p1]; first | done | rfl), by (rw [z1, z2, ekeep, (off_in (K := 224) q.1 q.2 (show (0 : Int32) ≤ 96 by decide) (by decide) (by decide) (by decide)).2, ← tkR_s _ _ _ _ (cl_pos g1), p1]; first | done | rfl), by (rw [z1, z2, eleak, (off_in (K := 224) q.1 q.2 (show (0 : Int32) ≤ 128 by decide) (by decide) (by decide) (by decide)).2, ← tkR_s _ _ _ _ (cl_pos g1), p1]; first | done | rfl), by (rw [z1, z2, ehose, (off_in (K := 224) q.1 q.2 (show (0 : Int32) ≤ 160 by decide) (by decide) (by decide) (by decide)).2, ← tkR_s _ _ _ _ (cl_pos g1), p1]; first | done | rfl), by (rw [z1, z2, estuck, (off_in (K := 224) q.1 q.2 (show (0 : Int32) ≤ 192 by decide) (by decide) (by decide) (by decide)).2, ← tkR_s _ _ _ _ (cl_pos g1), p1]; first | done | rfl)⟩; rw [z1, ew, (off_in (K := 224) q.1 q.2 (show (0 : Int32) ≤ 32 by decide) (by decide) (by decide) (by decide)).2]; first | done | rfl)
  refine v_w (wS_id _ 46 0).symm ?_
  refine v_w (wS_id _ 47 0).symm ?_
  refine v_w (wS_id _ 48 0).symm ?_
  refine v_w (wS_id _ 49 0).symm ?_
  refine v_w (wS_id _ 50 0).symm ?_
  refine v_w (wS_id _ 51 0).symm ?_
  refine v_w (w2 := (wS (wS (wS (wS (wS (wS (wS (wS (wS w 42 0 (L7 (w 42 0) (w 1080 0 0))) 46 0 (w 46 0)) 47 0 (w 47 0)) 48 0 (w 48 0)) 49 0 (w 49 0)) 50 0 (w 50 0)) 51 0 (w 51 0)) 1080 0 (fun _ => 1)) 1098 0 (fun _ => 90))) (by simp only [wS_s, wS_t, wS_a, ne_eq, Nat.reduceEqDiff, not_false_eq_true, wS_wS, wS_p, wS_pp, Nat.reduceLT, id_eq, L7_1]) ?_
  exact hL12 _ 1 90 (w 46 0) (w 47 0) (w 48 0) (w 49 0) (w 50 0) (w 51 0) (Nat.lt_succ_self _) (by clear C hL12; exact ⟨by decide, by grind, rfl, (tkR_0 _ _ _ _).symm, (tkR_0 _ _ _ _).symm, (tkR_0 _ _ _ _).symm, (tkR_0 _ _ _ _).symm, (tkR_0 _ _ _ _).symm, (tkR_0 _ _ _ _).symm⟩)
abbrev P_X12_take_o (w : Wi) (z : Wj) : WW → Prop := fun u_ => u_ = ((wS (wS (wS (wS (wS (wS (wS (wS (wS (wS (wS (wS w 42 0 (L7 (w 42 0) (w 1080 0 0))) 46 0 (tkR (w 46 0) (L7 (w 42 0) (w 1080 0 0)) 0 (w 57 0) ((w 1074 0 0)).toNatClampNeg)) 47 0 (tkR (w 47 0) (L7 (w 42 0) (w 1080 0 0)) 64 (w 57 0) ((w 1074 0 0)).toNatClampNeg)) 48 0 (tkR (w 48 0) (L7 (w 42 0) (w 1080 0 0)) 96 (w 57 0) ((w 1074 0 0)).toNatClampNeg)) 49 0 (tkR (w 49 0) (L7 (w 42 0) (w 1080 0 0)) 128 (w 57 0) ((w 1074 0 0)).toNatClampNeg)) 50 0 (tkR (w 50 0) (L7 (w 42 0) (w 1080 0 0)) 160 (w 57 0) ((w 1074 0 0)).toNatClampNeg)) 51 0 (tkR (w 51 0) (L7 (w 42 0) (w 1080 0 0)) 192 (w 57 0) ((w 1074 0 0)).toNatClampNeg)) 1080 0 (fun _ => 1)) 1098 0 (fun _ => wgR (L7 (w 42 0) (w 1080 0 0)) (w 57 0) ((w 1074 0 0)).toNatClampNeg)) 1099 0 (fun _ => 601)) 1100 0 (fun _ => 0)) 1101 0 (fun _ => 601)), z)
set_option maxHeartbeats 4000000 in
set_option maxRecDepth 100000 in
theorem c_X12_take_o (E : En) (hM : q_okM E) (w : Wi) (z : Wj) (h1 : 1 ≤ (w 1074 0 0)) (h2 : (w 1074 0 0) ≤ 16) (h0 : (w 1080 0 0) = 0 ∨ (w 1080 0 0) = 1) (h3 : ∀ k, k < ((w 1074 0 0)).toNatClampNeg → 0 ≤ (w 57 0) k ∧ (w 57 0) k < 16) : CtV M_X12_take_ E [.ref (E.ad 12 0), .ref (E.ad 57 0)] w z (P_X12_take_o w z) := by
  have hE := hM.1
  refine ctV_of (lv := [(0, .ref (E.ad 12 0)), (1, .ref (E.ad 57 0))]) hE m_X12_take_ (Nat.le_of_ble_eq_true rfl) rfl ?_
  intro K A C0
  have C : Cx K E A cX12_take_ 4 RX12 none { frames := 1, cells := 0, slots := 0, locals := 20 } := C0
  clear C0
  refine v_aload_n C 0 dX12_take__0 rfl ?_
  refine v_vV C 12 0 [] 0 (c_X12_lay E hM _ _    (by clear C; exact h0)) m_X12_lay x_1479 x_1481 x_36 p_X12_lay rfl ⟨Nat.le_of_ble_eq_true rfl, Nat.le_of_ble_eq_true rfl⟩ (hM.2 _ (u_12 0 (by decide))) k_12 rfl (Nat.le_of_ble_eq_true rfl) dX12_take__1 (fun u1 v1 hp1 => ?_)
  have hu1 := hp1
  cases hu1
  refine v_aload_n C 0 dX12_take__4 rfl ?_
  refine v_bipush (v := 90) C dX12_take__5 (by decide) ?_
  refine v_pI C 12 0 38 1098 (hM.2 _ (u_12 0 (by decide))) k_12 ty_12 (by decide) rfl ⟨rfl, rfl⟩ x_1280 rfl rfl dX12_take__7 ?_
  refine v_iconst (v := 1) C dX12_take__10 (by decide) ?_
  refine v_istore_n (lv2 := [(2, .int 1), (0, .ref (E.ad 12 0)), (1, .ref (E.ad 57 0))]) C dX12_take__11 rfl (by decide) rfl ?_
  have hL12 : ∀ (n_ : Nat) (i : Int32) (wg : Int32) (rsort : Row) (rout : Row) (rkeep : Row) (rleak : Row) (rhose : Row) (rstuck : Row), (17 - i).toNatClampNeg < n_ → (1 ≤ i ∧ i ≤ (w 1074 0 0) + 1 ∧ wg = wgR (L7 (w 42 0) (w 1080 0 0)) (w 57 0) (i - 1).toNatClampNeg ∧ rsort = tkR (w 46 0) (L7 (w 42 0) (w 1080 0 0)) 0 (w 57 0) (i - 1).toNatClampNeg ∧ rout = tkR (w 47 0) (L7 (w 42 0) (w 1080 0 0)) 64 (w 57 0) (i - 1).toNatClampNeg ∧ rkeep = tkR (w 48 0) (L7 (w 42 0) (w 1080 0 0)) 96 (w 57 0) (i - 1).toNatClampNeg ∧ rleak = tkR (w 49 0) (L7 (w 42 0) (w 1080 0 0)) 128 (w 57 0) (i - 1).toNatClampNeg ∧ rhose = tkR (w 50 0) (L7 (w 42 0) (w 1080 0 0)) 160 (w 57 0) (i - 1).toNatClampNeg ∧ rstuck = tkR (w 51 0) (L7 (w 42 0) (w 1080 0 0)) 192 (w 57 0) (i - 1).toNatClampNeg) → V K E A 4 (QV K E A (P_X12_take_o w z)) 12 [(2, .int i), (0, .ref (E.ad 12 0)), (1, .ref (E.ad 57 0))] [] (wS (wS (wS (wS (wS (wS (wS (wS (wS w 42 0 (L7 (w 42 0) (w 1080 0 0))) 46 0 rsort) 47 0 rout) 48 0 rkeep) 49 0 rleak) 50 0 rhose) 51 0 rstuck) 1080 0 (fun _ => 1)) 1098 0 (fun _ => wg)) z := by
    intro n_
    induction n_ with
    | zero => intro i wg rsort rout rkeep rleak rhose rstuck hm_; exact absurd hm_ (Nat.not_lt_zero _)
    | succ n_ ih_12 =>
      intro i wg rsort rout rkeep rleak rhose rstuck hm_ hinv
      obtain ⟨g1, g2, ew, esort, eout, ekeep, eleak, ehose, estuck⟩ := hinv
      have p1 := cl_pred g1
      have hc : i ≤ (w 1074 0 0) → 0 ≤ (w 57 0) (i - 1).toNatClampNeg ∧ (w 57 0) (i - 1).toNatClampNeg < 16 := fun q => h3 _ ((cl_lt (by clear esort eout ekeep eleak ehose estuck ew; grind) (by clear esort eout ekeep eleak ehose estuck ew; grind)).mpr (by clear esort eout ekeep eleak ehose estuck ew; grind))
      refine v_iload_n C 0 dX12_take__12 rfl ?_
      refine v_aload_n C 1 dX12_take__13 rfl ?_
      refine v_gI C 12 0 14 1074 (w 1074 0 0) (hM.2 _ (u_12 0 (by decide))) k_12 (by decide) rfl rfl x_1256 (by simp only [wS_s, wS_t, wS_a, ne_eq, Nat.reduceEqDiff, not_false_eq_true, L7_1]) dX12_take__14 ?_
      refine v_ic_gt C 142 dX12_take__17 (by decide) (fun c_17 => ?_) (fun c_17 => ?_)
      · refine v_aload_n C 1 dX12_take__142 rfl ?_
        refine v_sipush (v := 601) C dX12_take__143 (by decide) ?_
        refine v_pI C 12 0 39 1099 (hM.2 _ (u_12 0 (by decide))) k_12 ty_12 (by decide) rfl ⟨rfl, rfl⟩ x_1281 rfl rfl dX12_take__146 ?_
        refine v_aload_n C 1 dX12_take__149 rfl ?_
        refine v_sipush (v := 601) C dX12_take__150 (by decide) ?_
        refine v_pI C 12 0 41 1101 (hM.2 _ (u_12 0 (by decide))) k_12 ty_12 (by decide) rfl ⟨rfl, rfl⟩ x_1283 rfl rfl dX12_take__153 ?_
        refine v_aload_n C 1 dX12_take__156 rfl ?_
        refine v_iconst (v := 0) C dX12_take__157 (by decide) ?_
        refine v_pI C 12 0 40 1100 (hM.2 _ (u_12 0 (by decide))) k_12 ty_12 (by decide) rfl ⟨rfl, rfl⟩ x_1282 rfl rfl dX12_take__158 ?_
        refine v_w (w2 := (wS (wS (wS (wS (wS (wS (wS (wS (wS (wS (wS (wS w 42 0 (L7 (w 42 0) (w 1080 0 0))) 46 0 rsort) 47 0 rout) 48 0 rkeep) 49 0 rleak) 50 0 rhose) 51 0 rstuck) 1080 0 (fun _ => 1)) 1098 0 (fun _ => wg)) 1099 0 (fun _ => 601)) 1100 0 (fun _ => 0)) 1101 0 (fun _ => 601))) (by simp only [wS_s, wS_t, wS_a, ne_eq, Nat.reduceEqDiff, not_false_eq_true, wS_wS, wS_p, wS_pp, Nat.reduceLT, id_eq, L7_1]) ?_
        have hi : (w 1074 0 0) = i - 1 := (by clear esort eout ekeep eleak ehose estuck ew hc; grind)
        exact v_vret C dX12_take__161 (congr (congrArg Prod.mk (wS_eq (wS_eq (wS_eq (wS_eq (wS_eq (wS_eq (wS_eq (wS_eq (wS_eq (wS_eq (wS_eq (wS_eq rfl rfl) (by clear C ih_12; rw [hi]; assumption)) (by clear C ih_12; rw [hi]; assumption)) (by clear C ih_12; rw [hi]; assumption)) (by clear C ih_12; rw [hi]; assumption)) (by clear C ih_12; rw [hi]; assumption)) (by clear C ih_12; rw [hi]; assumption)) rfl) (fu_eq (by clear C ih_12; rw [hi]; assumption))) rfl) rfl) rfl)) rfl)
      · refine v_aload_n C 2 dX12_take__20 rfl ?_
        refine v_iload_n C 0 dX12_take__21 rfl ?_
        refine v_iconst (v := 1) C dX12_take__22 (by decide) ?_
        refine v_isub C dX12_take__23 ?_
        refine v_iald C 57 0 (hM.2 _ (u_57 0 (by decide))) ⟨by decide, rfl, rfl⟩ (by exact v_in (N := 16) (by decide) (by grind) (by grind)) dX12_take__24 ?_
        refine v_i (y := ((w 57 0) (i - 1).toNatClampNeg)) (by simp only [wS_s, wS_t, wS_a, ne_eq, Nat.reduceEqDiff, not_false_eq_true, L7_1]) ?_
        refine v_istore_n (lv2 := [(3, .int ((w 57 0) (i - 1).toNatClampNeg)), (2, .int i), (0, .ref (E.ad 12 0)), (1, .ref (E.ad 57 0))]) C dX12_take__25 rfl (by decide) rfl ?_
        refine v_aload_n C 2 dX12_take__26 rfl ?_
        refine v_gR C 12 0 28 46 0 (hM.2 _ (u_12 0 (by decide))) k_12 (by decide) x_1270 (fun _ _ _ => rfl) dX12_take__27 ?_
        refine v_iload_n C 1 dX12_take__30 rfl ?_
        refine v_aload_n C 2 dX12_take__31 rfl ?_
        refine v_gR C 12 0 13 42 0 (hM.2 _ (u_12 0 (by decide))) k_12 (by decide) x_1255 (fun _ _ _ => rfl) dX12_take__32 ?_
        refine v_iconst (v := 0) C dX12_take__35 (by decide) ?_
        refine v_iload_n C 0 dX12_take__36 rfl ?_
        refine v_iadd C dX12_take__37 ?_
        refine v_iald C 42 0 (hM.2 _ (u_42 0 (by decide))) ⟨by decide, rfl, rfl⟩ (off_in (K := 224) (hc (by clear esort eout ekeep eleak ehose estuck ew hc; grind)).1 (hc (by clear esort eout ekeep eleak ehose estuck ew hc; grind)).2 (show (0 : Int32) ≤ 0 by decide) (by decide) (by decide) (by decide)).1 dX12_take__38 ?_
        refine v_i (y := ((L7 (w 42 0) (w 1080 0 0)) (0 + ((w 57 0) (i - 1).toNatClampNeg)).toNatClampNeg)) (by simp only [wS_s, wS_t, wS_a, ne_eq, Nat.reduceEqDiff, not_false_eq_true, L7_1]) ?_
        refine v_iast C 46 0 (hM.2 _ (u_46 0 (by decide))) ⟨by decide, rfl, rfl⟩ (by exact v_in (N := 17) (by decide) (by grind) (by grind)) dX12_take__39 ?_
        refine v_aload_n C 2 dX12_take__40 rfl ?_
        refine v_dup C dX12_take__41 rfl ?_
        refine v_gI C 12 0 38 1098 wg (hM.2 _ (u_12 0 (by decide))) k_12 (by decide) rfl rfl x_1280 (by simp only [wS_s, wS_t, wS_a, ne_eq, Nat.reduceEqDiff, not_false_eq_true, L7_1]) dX12_take__42 ?_
        refine v_aload_n C 2 dX12_take__45 rfl ?_
        refine v_gR C 12 0 13 42 0 (hM.2 _ (u_12 0 (by decide))) k_12 (by decide) x_1255 (fun _ _ _ => rfl) dX12_take__46 ?_
        refine v_bipush (v := 32) C dX12_take__49 (by decide) ?_
        refine v_iload_n C 0 dX12_take__51 rfl ?_
        refine v_iadd C dX12_take__52 ?_
        refine v_iald C 42 0 (hM.2 _ (u_42 0 (by decide))) ⟨by decide, rfl, rfl⟩ (off_in (K := 224) (hc (by clear esort eout ekeep eleak ehose estuck ew hc; grind)).1 (hc (by clear esort eout ekeep eleak ehose estuck ew hc; grind)).2 (show (0 : Int32) ≤ 32 by decide) (by decide) (by decide) (by decide)).1 dX12_take__53 ?_
        refine v_i (y := ((L7 (w 42 0) (w 1080 0 0)) (32 + ((w 57 0) (i - 1).toNatClampNeg)).toNatClampNeg)) (by simp only [wS_s, wS_t, wS_a, ne_eq, Nat.reduceEqDiff, not_false_eq_true, L7_1]) ?_
        refine v_iadd C dX12_take__54 ?_
        refine v_pI C 12 0 38 1098 (hM.2 _ (u_12 0 (by decide))) k_12 ty_12 (by decide) rfl ⟨rfl, rfl⟩ x_1280 rfl rfl dX12_take__55 ?_
        refine v_aload_n C 2 dX12_take__58 rfl ?_
        refine v_gR C 12 0 29 47 0 (hM.2 _ (u_12 0 (by decide))) k_12 (by decide) x_1271 (fun _ _ _ => rfl) dX12_take__59 ?_
        refine v_iload_n C 1 dX12_take__62 rfl ?_
        refine v_aload_n C 2 dX12_take__63 rfl ?_
        refine v_gR C 12 0 13 42 0 (hM.2 _ (u_12 0 (by decide))) k_12 (by decide) x_1255 (fun _ _ _ => rfl) dX12_take__64 ?_
        refine v_bipush (v := 64) C dX12_take__67 (by decide) ?_
        refine v_iload_n C 0 dX12_take__69 rfl ?_
        refine v_iadd C dX12_take__70 ?_
        refine v_iald C 42 0 (hM.2 _ (u_42 0 (by decide))) ⟨by decide, rfl, rfl⟩ (off_in (K := 224) (hc (by clear esort eout ekeep eleak ehose estuck ew hc; grind)).1 (hc (by clear esort eout ekeep eleak ehose estuck ew hc; grind)).2 (show (0 : Int32) ≤ 64 by decide) (by decide) (by decide) (by decide)).1 dX12_take__71 ?_
        refine v_i (y := ((L7 (w 42 0) (w 1080 0 0)) (64 + ((w 57 0) (i - 1).toNatClampNeg)).toNatClampNeg)) (by simp only [wS_s, wS_t, wS_a, ne_eq, Nat.reduceEqDiff, not_false_eq_true, L7_1]) ?_
        refine v_iast C 47 0 (hM.2 _ (u_47 0 (by decide))) ⟨by decide, rfl, rfl⟩ (by exact v_in (N := 17) (by decide) (by grind) (by grind)) dX12_take__72 ?_
        refine v_aload_n C 2 dX12_take__73 rfl ?_
        refine v_gR C 12 0 30 48 0 (hM.2 _ (u_12 0 (by decide))) k_12 (by decide) x_1272 (fun _ _ _ => rfl) dX12_take__74 ?_
        refine v_iload_n C 1 dX12_take__77 rfl ?_
        refine v_aload_n C 2 dX12_take__78 rfl ?_
        refine v_gR C 12 0 13 42 0 (hM.2 _ (u_12 0 (by decide))) k_12 (by decide) x_1255 (fun _ _ _ => rfl) dX12_take__79 ?_
        refine v_bipush (v := 96) C dX12_take__82 (by decide) ?_
        refine v_iload_n C 0 dX12_take__84 rfl ?_
        refine v_iadd C dX12_take__85 ?_
        refine v_iald C 42 0 (hM.2 _ (u_42 0 (by decide))) ⟨by decide, rfl, rfl⟩ (off_in (K := 224) (hc (by clear esort eout ekeep eleak ehose estuck ew hc; grind)).1 (hc (by clear esort eout ekeep eleak ehose estuck ew hc; grind)).2 (show (0 : Int32) ≤ 96 by decide) (by decide) (by decide) (by decide)).1 dX12_take__86 ?_
        refine v_i (y := ((L7 (w 42 0) (w 1080 0 0)) (96 + ((w 57 0) (i - 1).toNatClampNeg)).toNatClampNeg)) (by simp only [wS_s, wS_t, wS_a, ne_eq, Nat.reduceEqDiff, not_false_eq_true, L7_1]) ?_
        refine v_iast C 48 0 (hM.2 _ (u_48 0 (by decide))) ⟨by decide, rfl, rfl⟩ (by exact v_in (N := 17) (by decide) (by grind) (by grind)) dX12_take__87 ?_
        refine v_aload_n C 2 dX12_take__88 rfl ?_
        refine v_gR C 12 0 31 49 0 (hM.2 _ (u_12 0 (by decide))) k_12 (by decide) x_1273 (fun _ _ _ => rfl) dX12_take__89 ?_
        refine v_iload_n C 1 dX12_take__92 rfl ?_
        refine v_aload_n C 2 dX12_take__93 rfl ?_
        refine v_gR C 12 0 13 42 0 (hM.2 _ (u_12 0 (by decide))) k_12 (by decide) x_1255 (fun _ _ _ => rfl) dX12_take__94 ?_
        refine v_sipush (v := 128) C dX12_take__97 (by decide) ?_
        refine v_iload_n C 0 dX12_take__100 rfl ?_
        refine v_iadd C dX12_take__101 ?_
        refine v_iald C 42 0 (hM.2 _ (u_42 0 (by decide))) ⟨by decide, rfl, rfl⟩ (off_in (K := 224) (hc (by clear esort eout ekeep eleak ehose estuck ew hc; grind)).1 (hc (by clear esort eout ekeep eleak ehose estuck ew hc; grind)).2 (show (0 : Int32) ≤ 128 by decide) (by decide) (by decide) (by decide)).1 dX12_take__102 ?_
        refine v_i (y := ((L7 (w 42 0) (w 1080 0 0)) (128 + ((w 57 0) (i - 1).toNatClampNeg)).toNatClampNeg)) (by simp only [wS_s, wS_t, wS_a, ne_eq, Nat.reduceEqDiff, not_false_eq_true, L7_1]) ?_
        refine v_iast C 49 0 (hM.2 _ (u_49 0 (by decide))) ⟨by decide, rfl, rfl⟩ (by exact v_in (N := 17) (by decide) (by grind) (by grind)) dX12_take__103 ?_
        refine v_aload_n C 2 dX12_take__104 rfl ?_
        refine v_gR C 12 0 32 50 0 (hM.2 _ (u_12 0 (by decide))) k_12 (by decide) x_1274 (fun _ _ _ => rfl) dX12_take__105 ?_
        refine v_iload_n C 1 dX12_take__108 rfl ?_
        refine v_aload_n C 2 dX12_take__109 rfl ?_
        refine v_gR C 12 0 13 42 0 (hM.2 _ (u_12 0 (by decide))) k_12 (by decide) x_1255 (fun _ _ _ => rfl) dX12_take__110 ?_
        refine v_sipush (v := 160) C dX12_take__113 (by decide) ?_
        refine v_iload_n C 0 dX12_take__116 rfl ?_
        refine v_iadd C dX12_take__117 ?_
        refine v_iald C 42 0 (hM.2 _ (u_42 0 (by decide))) ⟨by decide, rfl, rfl⟩ (off_in (K := 224) (hc (by clear esort eout ekeep eleak ehose estuck ew hc; grind)).1 (hc (by clear esort eout ekeep eleak ehose estuck ew hc; grind)).2 (show (0 : Int32) ≤ 160 by decide) (by decide) (by decide) (by decide)).1 dX12_take__118 ?_
        refine v_i (y := ((L7 (w 42 0) (w 1080 0 0)) (160 + ((w 57 0) (i - 1).toNatClampNeg)).toNatClampNeg)) (by simp only [wS_s, wS_t, wS_a, ne_eq, Nat.reduceEqDiff, not_false_eq_true, L7_1]) ?_
        refine v_iast C 50 0 (hM.2 _ (u_50 0 (by decide))) ⟨by decide, rfl, rfl⟩ (by exact v_in (N := 17) (by decide) (by grind) (by grind)) dX12_take__119 ?_
        refine v_aload_n C 2 dX12_take__120 rfl ?_
        refine v_gR C 12 0 33 51 0 (hM.2 _ (u_12 0 (by decide))) k_12 (by decide) x_1275 (fun _ _ _ => rfl) dX12_take__121 ?_
        refine v_iload_n C 1 dX12_take__124 rfl ?_
        refine v_aload_n C 2 dX12_take__125 rfl ?_
        refine v_gR C 12 0 13 42 0 (hM.2 _ (u_12 0 (by decide))) k_12 (by decide) x_1255 (fun _ _ _ => rfl) dX12_take__126 ?_
        refine v_sipush (v := 192) C dX12_take__129 (by decide) ?_
        refine v_iload_n C 0 dX12_take__132 rfl ?_
        refine v_iadd C dX12_take__133 ?_
        refine v_iald C 42 0 (hM.2 _ (u_42 0 (by decide))) ⟨by decide, rfl, rfl⟩ (off_in (K := 224) (hc (by clear esort eout ekeep eleak ehose estuck ew hc; grind)).1 (hc (by clear esort eout ekeep eleak ehose estuck ew hc; grind)).2 (show (0 : Int32) ≤ 192 by decide) (by decide) (by decide) (by decide)).1 dX12_take__134 ?_
        refine v_i (y := ((L7 (w 42 0) (w 1080 0 0)) (192 + ((w 57 0) (i - 1).toNatClampNeg)).toNatClampNeg)) (by simp only [wS_s, wS_t, wS_a, ne_eq, Nat.reduceEqDiff, not_false_eq_true, L7_1]) ?_
        refine v_iast C 51 0 (hM.2 _ (u_51 0 (by decide))) ⟨by decide, rfl, rfl⟩ (by exact v_in (N := 17) (by decide) (by grind) (by grind)) dX12_take__135 ?_
        refine v_iinc (v := i + 1) (lv2 := [(2, .int (i + 1)), (3, .int ((w 57 0) (i - 1).toNatClampNeg)), (0, .ref (E.ad 12 0)), (1, .ref (E.ad 57 0))]) C 1 dX12_take__136 rfl rfl (by decide) rfl ?_
        refine v_goto C 12 dX12_take__139 (by decide) ?_
        refine v_w (w2 := (wS (wS (wS (wS (wS (wS (wS (wS (wS w 42 0 (L7 (w 42 0) (w 1080 0 0))) 46 0 (upd rsort i.toNatClampNeg ((L7 (w 42 0) (w 1080 0 0)) (0 + ((w 57 0) (i - 1).toNatClampNeg)).toNatClampNeg))) 47 0 (upd rout i.toNatClampNeg ((L7 (w 42 0) (w 1080 0 0)) (64 + ((w 57 0) (i - 1).toNatClampNeg)).toNatClampNeg))) 48 0 (upd rkeep i.toNatClampNeg ((L7 (w 42 0) (w 1080 0 0)) (96 + ((w 57 0) (i - 1).toNatClampNeg)).toNatClampNeg))) 49 0 (upd rleak i.toNatClampNeg ((L7 (w 42 0) (w 1080 0 0)) (128 + ((w 57 0) (i - 1).toNatClampNeg)).toNatClampNeg))) 50 0 (upd rhose i.toNatClampNeg ((L7 (w 42 0) (w 1080 0 0)) (160 + ((w 57 0) (i - 1).toNatClampNeg)).toNatClampNeg))) 51 0 (upd rstuck i.toNatClampNeg ((L7 (w 42 0) (w 1080 0 0)) (192 + ((w 57 0) (i - 1).toNatClampNeg)).toNatClampNeg))) 1080 0 (fun _ => 1)) 1098 0 (fun _ => (wg + ((L7 (w 42 0) (w 1080 0 0)) (32 + ((w 57 0) (i - 1).toNatClampNeg)).toNatClampNeg))))) (by simp only [wS_s, wS_t, wS_a, ne_eq, Nat.reduceEqDiff, not_false_eq_true, wS_wS, wS_p, wS_pp, Nat.reduceLT, id_eq, L7_1]) ?_
        refine v_l [0, 2, 3] rfl ?_
        exact ih_12 (i + 1) (wg + ((L7 (w 42 0) (w 1080 0 0)) (32 + ((w 57 0) (i - 1).toNatClampNeg)).toNatClampNeg)) (upd rsort i.toNatClampNeg ((L7 (w 42 0) (w 1080 0 0)) (0 + ((w 57 0) (i - 1).toNatClampNeg)).toNatClampNeg)) (upd rout i.toNatClampNeg ((L7 (w 42 0) (w 1080 0 0)) (64 + ((w 57 0) (i - 1).toNatClampNeg)).toNatClampNeg)) (upd rkeep i.toNatClampNeg ((L7 (w 42 0) (w 1080 0 0)) (96 + ((w 57 0) (i - 1).toNatClampNeg)).toNatClampNeg)) (upd rleak i.toNatClampNeg ((L7 (w 42 0) (w 1080 0 0)) (128 + ((w 57 0) (i - 1).toNatClampNeg)).toNatClampNeg)) (upd rhose i.toNatClampNeg ((L7 (w 42 0) (w 1080 0 0)) (160 + ((w 57 0) (i - 1).toNatClampNeg)).toNatClampNeg)) (upd rstuck i.toNatClampNeg ((L7 (w 42 0) (w 1080 0 0)) (192 + ((w 57 0) (i - 1).toNatClampNeg)).toNatClampNeg)) (by clear C ih_12; exact Nat.lt_of_lt_of_le (m_up (by clear esort eout ekeep eleak ehose estuck ew hc; grind) (by clear esort eout ekeep eleak ehose estuck ew hc; grind)) (Nat.le_of_lt_succ hm_)) (by clear C ih_12; have q := hc (by clear esort eout ekeep eleak ehose estuck ew hc; grind); have z1 : (i + 1 - 1).toNatClampNeg = (i - 1).toNatClampNeg + 1 := (by rw [show i + 1 - 1 = i - 1 + 1 by grind, cl_succ (by clear esort eout ekeep eleak ehose estuck ew hc q; grind) (by clear esort eout ekeep eleak ehose estuck ew hc q; grind)]); have z2 : (i - 1).toNatClampNeg + 1 = i.toNatClampNeg := (by have := cl_pos g1; omega); refine ⟨by clear esort eout ekeep eleak ehose estuck ew hc q; grind, by clear esort eout ekeep eleak ehose estuck ew hc q; grind, ?_, by (rw [z1, z2, esort, (off_in (K := 224) q.1 q.2 (show (0 : Int32) ≤ 0 by decide) (by decide) (by decide) (by decide)).2, ← tkR_s _ _ _ _ (cl_pos g1), p1]; first | done | rfl), by (rw [z1, z2, eout, (off_in (K := 224) q.1 q.2 (show (0 : Int32) ≤ 64 by decide) (by decide) (by decide) (by decide)).2, ← tkR_s _ _ _ _ (cl_pos g1), p1]; first | done | rfl), by (rw [z1, z2, ekeep, (off_in (K := 224) q.1 q.2 (show (0 : Int32) ≤ 96 by decide) (by decide) (by decide) (by decide)).2, ← tkR_s _ _ _ _ (cl_pos g1), p1]; first | done | rfl), by (rw [z1, z2, eleak, (off_in (K := 224) q.1 q.2 (show (0 : Int32) ≤ 128 by decide) (by decide) (by decide) (by decide)).2, ← tkR_s _ _ _ _ (cl_pos g1), p1]; first | done | rfl), by (rw [z1, z2, ehose, (off_in (K := 224) q.1 q.2 (show (0 : Int32) ≤ 160 by decide) (by decide) (by decide) (by decide)).2, ← tkR_s _ _ _ _ (cl_pos g1), p1]; first | done | rfl), by (rw [z1, z2, estuck, (off_in (K := 224) q.1 q.2 (show (0 : Int32) ≤ 192 by decide) (by decide) (by decide) (by decide)).2, ← tkR_s _ _ _ _ (cl_pos g1), p1]; first | done | rfl)⟩; rw [z1, ew, (off_in (K := 224) q.1 q.2 (show (0 : Int32) ≤ 32 by decide) (by decide) (by decide) (by decide)).2]; first | done | rfl)
  refine v_w (wS_id _ 46 0).symm ?_
  refine v_w (wS_id _ 47 0).symm ?_
  refine v_w (wS_id _ 48 0).symm ?_
  refine v_w (wS_id _ 49 0).symm ?_
  refine v_w (wS_id _ 50 0).symm ?_
  refine v_w (wS_id _ 51 0).symm ?_
  refine v_w (w2 := (wS (wS (wS (wS (wS (wS (wS (wS (wS w 42 0 (L7 (w 42 0) (w 1080 0 0))) 46 0 (w 46 0)) 47 0 (w 47 0)) 48 0 (w 48 0)) 49 0 (w 49 0)) 50 0 (w 50 0)) 51 0 (w 51 0)) 1080 0 (fun _ => 1)) 1098 0 (fun _ => 90))) (by simp only [wS_s, wS_t, wS_a, ne_eq, Nat.reduceEqDiff, not_false_eq_true, wS_wS, wS_p, wS_pp, Nat.reduceLT, id_eq, L7_1]) ?_
  exact hL12 _ 1 90 (w 46 0) (w 47 0) (w 48 0) (w 49 0) (w 50 0) (w 51 0) (Nat.lt_succ_self _) (by clear C hL12; exact ⟨by decide, by grind, rfl, (tkR_0 _ _ _ _).symm, (tkR_0 _ _ _ _).symm, (tkR_0 _ _ _ _).symm, (tkR_0 _ _ _ _).symm, (tkR_0 _ _ _ _).symm, (tkR_0 _ _ _ _).symm⟩)
