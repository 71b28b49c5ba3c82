abbrev P_X12_tick (w : Wi) (z : Wj) (t : Int32) : WW → Prop := fun u_ => ∃ (uh_ : Wi), u_ = ((wB (wS (wS (wS w 52 0 ((tkG ((w 1074 0 0), (w 1075 0 0), (w 1076 0 0), (w 46 0), (w 47 0), (w 48 0), (w 49 0), (w 50 0), (w 51 0)) ((w 1084 0 0), (w 1086 0 0), (w 43 0), (w 44 0), (w 45 0)) (w 1099 0 0) (w 1100 0 0) (w 1101 0 0) t ((w 52 0), (w 53 0), (w 54 0))).1)) 53 0 ((tkG ((w 1074 0 0), (w 1075 0 0), (w 1076 0 0), (w 46 0), (w 47 0), (w 48 0), (w 49 0), (w 50 0), (w 51 0)) ((w 1084 0 0), (w 1086 0 0), (w 43 0), (w 44 0), (w 45 0)) (w 1099 0 0) (w 1100 0 0) (w 1101 0 0) t ((w 52 0), (w 53 0), (w 54 0))).2.1)) 54 0 ((tkG ((w 1074 0 0), (w 1075 0 0), (w 1076 0 0), (w 46 0), (w 47 0), (w 48 0), (w 49 0), (w 50 0), (w 51 0)) ((w 1084 0 0), (w 1086 0 0), (w 43 0), (w 44 0), (w 45 0)) (w 1099 0 0) (w 1100 0 0) (w 1101 0 0) t ((w 52 0), (w 53 0), (w 54 0))).2.2)) SF uh_), z)
set_option maxHeartbeats 4000000 in
set_option maxRecDepth 100000 in
theorem c_X12_tick (E : En) (hM : q_okM E) (w : Wi) (z : Wj) (t : Int32) (h1 : 1 ≤ (w 1074 0 0)) (h2 : (w 1074 0 0) ≤ 16) (h3 : 0 ≤ (w 1084 0 0)) (h4 : (w 1084 0 0) ≤ 20) (h5 : 0 ≤ (w 1100 0 0)) (h6 : (w 1100 0 0) < 16) : CtV M_X12_tick E [.ref (E.ad 12 0), .int t] w z (P_X12_tick w z t) := by
  have hE := hM.1
  refine ctV_of (lv := [(0, .ref (E.ad 12 0)), (1, .int t)]) hE m_X12_tick (Nat.le_of_ble_eq_true rfl) rfl ?_
  intro K A C0
  have C : Cx K E A cX12_tick 6 RX12 none { frames := 2, cells := 0, slots := 0, locals := 45 } := C0
  clear C0
  refine v_aload_n C 0 dX12_tick_0 rfl ?_
  refine v_iload_n C 1 dX12_tick_1 rfl ?_
  refine v_vI C 12 0 [.int t] 1 (c_X12_stepAt E hM _ _  t  (by clear C; exact h3) (by clear C; exact h4)) m_X12_stepAt x_1593 x_1595 x_57 p_X12_stepAt rfl ⟨Nat.le_of_ble_eq_true rfl, Nat.le_of_ble_eq_true rfl⟩ (hM.2 _ (u_12 0 (by decide))) k_12 rfl (Nat.le_of_ble_eq_true rfl) dX12_tick_2 (fun r1 u1 v1 hp1 => ?_)
  obtain ⟨hr1, hu1⟩ := hp1
  subst hr1
  cases hu1
  have hL5 : ∀ (sv : Int32), (sv = (saR (w 45 0) (w 1084 0 0).toNatClampNeg 0 t)) → V K E A 6 (QV K E A (P_X12_tick w z t)) 5 [(0, .ref (E.ad 12 0)), (1, .int t)] [.int sv] w z := by
    intro sv hinv
    have es := hinv
    have eb := saR_q (lg := (w 45 0)) (t := t) h3 h4
    rw [← es] at eb
    refine v_istore_n (lv2 := [(2, .int sv), (0, .ref (E.ad 12 0)), (1, .int t)]) C dX12_tick_5 rfl (by decide) rfl ?_
    have hL33 : ∀ (wh : Int32), (wh = whG ((w 1084 0 0), (w 1086 0 0), (w 43 0), (w 44 0), (w 45 0)) t (w 1099 0 0)) → V K E A 6 (QV K E A (P_X12_tick w z t)) 33 [(2, .int sv), (0, .ref (E.ad 12 0)), (1, .int t)] [.int wh] w z := by
      intro wh hinv
      have ew := hinv
      refine v_istore_n (lv2 := [(3, .int wh), (2, .int sv), (0, .ref (E.ad 12 0)), (1, .int t)]) C dX12_tick_33 rfl (by decide) rfl ?_
      have hL49 : ∀ (dr : Int32), (dr = drG ((w 1084 0 0), (w 1086 0 0), (w 43 0), (w 44 0), (w 45 0)) t) → V K E A 6 (QV K E A (P_X12_tick w z t)) 49 [(3, .int wh), (2, .int sv), (0, .ref (E.ad 12 0)), (1, .int t)] [.int dr] w z := by
        intro dr hinv
        have ed := hinv
        refine v_istore (lv2 := [(4, .int dr), (3, .int wh), (2, .int sv), (0, .ref (E.ad 12 0)), (1, .int t)]) C dX12_tick_49 (by decide) rfl ?_
        refine v_aload_n C 3 dX12_tick_51 rfl ?_
        refine v_iconst (v := 0) C dX12_tick_52 (by decide) ?_
        refine v_iload_n C 1 dX12_tick_53 rfl ?_
        refine v_iload C 0 dX12_tick_54 rfl ?_
        refine v_vV C 12 0 [.int 0, .int wh, .int dr] 3 (c_X12_act E hM _ _  0 wh dr  (by clear C; decide) (by clear C; decide)) m_X12_act x_1597 x_1599 x_58 p_X12_act rfl ⟨Nat.le_of_ble_eq_true rfl, Nat.le_of_ble_eq_true rfl⟩ (hM.2 _ (u_12 0 (by decide))) k_12 rfl (Nat.le_of_ble_eq_true rfl) dX12_tick_56 (fun u2 v2 hp2 => ?_)
        have hu2 := hp2
        cases hu2
        have hL77 : ∀ (P2 : Row), (P2 = (if (w 1086 0 0) ≠ 0 then workG (w 1075 0 0) (w 1076 0 0) (workG (w 1075 0 0) (w 1076 0 0) (w 52 0) wh dr 0) wh dr (w 1074 0 0) else workG (w 1075 0 0) (w 1076 0 0) (w 52 0) wh dr 0)) → V K E A 6 (QV K E A (P_X12_tick w z t)) 77 [(4, .int dr), (3, .int wh), (2, .int sv), (0, .ref (E.ad 12 0)), (1, .int t)] [] (wS w 52 0 P2) z := by
          intro P2 hinv
          have e2 := hinv
          refine v_iconst (v := 1) C dX12_tick_77 (by decide) ?_
          refine v_istore (lv2 := [(5, .int 1), (4, .int dr), (3, .int wh), (2, .int sv), (0, .ref (E.ad 12 0)), (1, .int t)]) C dX12_tick_78 (by decide) rfl ?_
          have hL80 : ∀ (n_ : Nat) (i : Int32) (Fl : Row), (17 - i).toNatClampNeg < n_ → (1 ≤ i ∧ i ≤ ((w 1074 0 0) + 1) ∧ Fl = cpR (w 55 0) (flR P2 (w 50 0) (brG t (w 1100 0 0) (w 1101 0 0))) i.toNatClampNeg) → V K E A 6 (QV K E A (P_X12_tick w z t)) 80 [(5, .int i), (4, .int dr), (3, .int wh), (2, .int sv), (0, .ref (E.ad 12 0)), (1, .int t)] [] (wS (wS w 52 0 P2) 55 0 Fl) z := by
            intro n_
            induction n_ with
            | zero => intro i Fl hm_; exact absurd hm_ (Nat.not_lt_zero _)
            | succ n_ ih_80 =>
              intro i Fl hm_ hinv
              obtain ⟨g1, g2, g3⟩ := hinv
              have hL154 : (Fl = cpR (w 55 0) (flR P2 (w 50 0) (brG t (w 1100 0 0) (w 1101 0 0))) ((w 1074 0 0) + 1).toNatClampNeg) → V K E A 6 (QV K E A (P_X12_tick w z t)) 154 [(4, .int dr), (3, .int wh), (2, .int sv), (0, .ref (E.ad 12 0)), (1, .int t)] [] (wS (wS w 52 0 P2) 55 0 Fl) z := by
                intro  hinv
                have eF := hinv
                refine v_iconst (v := 1) C dX12_tick_154 (by decide) ?_
                refine v_istore (lv2 := [(5, .int 1), (4, .int dr), (3, .int wh), (2, .int sv), (0, .ref (E.ad 12 0)), (1, .int t)]) C dX12_tick_155 (by decide) rfl ?_
                have hL157 : ∀ (n_ : Nat) (i2 : Int32) (Pp : Row), (17 - i2).toNatClampNeg < n_ → (1 ≤ i2 ∧ i2 ≤ ((w 1074 0 0) + 1) ∧ Pp = fwR P2 Fl i2.toNatClampNeg) → V K E A 6 (QV K E A (P_X12_tick w z t)) 157 [(5, .int i2), (4, .int dr), (3, .int wh), (2, .int sv), (0, .ref (E.ad 12 0)), (1, .int t)] [] (wS (wS w 52 0 Pp) 55 0 Fl) z := by
                  intro n_
                  induction n_ with
                  | zero => intro i2 Pp hm_; exact absurd hm_ (Nat.not_lt_zero _)
                  | succ n_ ih_157 =>
                    intro i2 Pp hm_ hinv
                    obtain ⟨k1, k2, k3⟩ := hinv
                    have k4 := cl_pred k1
                    have hL238 : ∀ (q : Row), (q = flowF (w 1074 0 0) (w 50 0) P2 (brG t (w 1100 0 0) (w 1101 0 0))) → V K E A 6 (QV K E A (P_X12_tick w z t)) 238 [(4, .int dr), (3, .int wh), (2, .int sv), (0, .ref (E.ad 12 0)), (1, .int t)] [] (wS (wS w 52 0 q) 55 0 Fl) z := by
                      intro q hinv
                      have eq_ := hinv
                      refine v_iconst (v := 1) C dX12_tick_238 (by decide) ?_
                      refine v_istore (lv2 := [(5, .int 1), (4, .int dr), (3, .int wh), (2, .int sv), (0, .ref (E.ad 12 0)), (1, .int t)]) C dX12_tick_239 (by decide) rfl ?_
                      have hL241 : ∀ (n_ : Nat) (i3 : Int32) (Pq : Row), (17 - i3).toNatClampNeg < n_ → (1 ≤ i3 ∧ i3 ≤ ((w 1074 0 0) + 1) ∧ Pq = cpR q (lkG q (w 49 0)) i3.toNatClampNeg) → V K E A 6 (QV K E A (P_X12_tick w z t)) 241 [(5, .int i3), (4, .int dr), (3, .int wh), (2, .int sv), (0, .ref (E.ad 12 0)), (1, .int t)] [] (wS (wS w 52 0 Pq) 55 0 Fl) z := by
                        intro n_
                        induction n_ with
                        | zero => intro i3 Pq hm_; exact absurd hm_ (Nat.not_lt_zero _)
                        | succ n_ ih_241 =>
                          intro i3 Pq hm_ hinv
                          obtain ⟨l1, l2, l3⟩ := hinv
                          have l4 : Pq i3.toNatClampNeg = q i3.toNatClampNeg := by rw [l3, cpR_c]
                          have hL285 : (Pq = cpR q (lkG q (w 49 0)) ((w 1074 0 0) + 1).toNatClampNeg) → V K E A 6 (QV K E A (P_X12_tick w z t)) 285 [(4, .int dr), (3, .int wh), (2, .int sv), (0, .ref (E.ad 12 0)), (1, .int t)] [] (wS (wS w 52 0 Pq) 55 0 Fl) z := by
                            intro  hinv
                            have eq2 := hinv
                            refine v_iconst (v := 1) C dX12_tick_285 (by decide) ?_
                            refine v_istore (lv2 := [(5, .int 1), (4, .int dr), (3, .int wh), (2, .int sv), (0, .ref (E.ad 12 0)), (1, .int t)]) C dX12_tick_286 (by decide) rfl ?_
                            have hL288 : ∀ (n_ : Nat) (i4 : Int32) (Pv : Row) (Tv : Row) (Yv : Row), (17 - i4).toNatClampNeg < n_ → (1 ≤ i4 ∧ i4 ≤ ((w 1074 0 0) + 1) ∧ Pv = cpR Pq (fun k => (vvG ((w 1074 0 0), (w 1075 0 0), (w 1076 0 0), (w 46 0), (w 47 0), (w 48 0), (w 49 0), (w 50 0), (w 51 0)) Pq (w 53 0) (w 54 0) k).1) i4.toNatClampNeg ∧ Tv = cpR (w 53 0) (fun k => (vvG ((w 1074 0 0), (w 1075 0 0), (w 1076 0 0), (w 46 0), (w 47 0), (w 48 0), (w 49 0), (w 50 0), (w 51 0)) Pq (w 53 0) (w 54 0) k).2.1) i4.toNatClampNeg ∧ Yv = cpR (w 54 0) (fun k => (vvG ((w 1074 0 0), (w 1075 0 0), (w 1076 0 0), (w 46 0), (w 47 0), (w 48 0), (w 49 0), (w 50 0), (w 51 0)) Pq (w 53 0) (w 54 0) k).2.2) i4.toNatClampNeg) → V K E A 6 (QV K E A (P_X12_tick w z t)) 288 [(5, .int i4), (4, .int dr), (3, .int wh), (2, .int sv), (0, .ref (E.ad 12 0)), (1, .int t)] [] (wS (wS (wS (wS w 52 0 Pv) 53 0 Tv) 54 0 Yv) 55 0 Fl) z := by
                              intro n_
                              induction n_ with
                              | zero => intro i4 Pv Tv Yv hm_; exact absurd hm_ (Nat.not_lt_zero _)
                              | succ n_ ih_288 =>
                                intro i4 Pv Tv Yv hm_ hinv
                                obtain ⟨m1, m2, eP, eT, eY⟩ := hinv
                                refine v_iload C 0 dX12_tick_288 rfl ?_
                                refine v_aload_n C 4 dX12_tick_290 rfl ?_
                                refine v_gI C 12 0 14 1074 (w 1074 0 0) (hM.2 _ (u_12 0 (by decide))) k_12 (by decide) rfl rfl x_1256 (by simp only [wS_s, wS_t, wS_a, ne_eq, Nat.reduceEqDiff, not_false_eq_true, L7_1]) dX12_tick_291 ?_
                                refine v_ic_gt C 319 dX12_tick_294 (by decide) (fun c_294 => ?_) (fun c_294 => ?_)
                                · have hi : i4 = ((w 1074 0 0) + 1) := (by clear eP eT eY; grind)
                                  have hT : (tkG ((w 1074 0 0), (w 1075 0 0), (w 1076 0 0), (w 46 0), (w 47 0), (w 48 0), (w 49 0), (w 50 0), (w 51 0)) ((w 1084 0 0), (w 1086 0 0), (w 43 0), (w 44 0), (w 45 0)) (w 1099 0 0) (w 1100 0 0) (w 1101 0 0) t ((w 52 0), (w 53 0), (w 54 0))) = (Pv, Tv, Yv) := by (simp only [tkG, idT, idV, idQ]; rw [← ew, ← ed, ← e2, ← eq_, ← eq2, ← hi, ← eP, ← eT, ← eY])
                                  exact v_vret C dX12_tick_319 ⟨_, (congr (congrArg Prod.mk ((kp_e (kp_add (e := Yv) (by simp only [wS_s, wS_t, wS_a, ne_eq, Nat.reduceEqDiff, not_false_eq_true, L7_1]) (kp_add (e := Tv) (by simp only [wS_s, wS_t, wS_a, ne_eq, Nat.reduceEqDiff, not_false_eq_true, L7_1]) (kp_add (e := Pv) (by simp only [wS_s, wS_t, wS_a, ne_eq, Nat.reduceEqDiff, not_false_eq_true, L7_1]) (kp_S (by decide) (kp_S (by decide) (kp_S (by decide) (kp_S (by decide) kp_r)))))))).trans (congrArg (fun c_ => wB c_ SF _) (wS_eq (wS_eq (wS_eq rfl (by clear C ih_80 ih_157 ih_241 ih_288; rw [hT])) (by clear C ih_80 ih_157 ih_241 ih_288; rw [hT])) (by clear C ih_80 ih_157 ih_241 ih_288; rw [hT]))))) rfl)⟩
                                · have hL313 : ∀ (P9 : Row) (T9 : Row) (Y9 : Row), (P9 = cpR Pq (fun k => (vvG ((w 1074 0 0), (w 1075 0 0), (w 1076 0 0), (w 46 0), (w 47 0), (w 48 0), (w 49 0), (w 50 0), (w 51 0)) Pq (w 53 0) (w 54 0) k).1) (i4.toNatClampNeg + 1) ∧ T9 = cpR (w 53 0) (fun k => (vvG ((w 1074 0 0), (w 1075 0 0), (w 1076 0 0), (w 46 0), (w 47 0), (w 48 0), (w 49 0), (w 50 0), (w 51 0)) Pq (w 53 0) (w 54 0) k).2.1) (i4.toNatClampNeg + 1) ∧ Y9 = cpR (w 54 0) (fun k => (vvG ((w 1074 0 0), (w 1075 0 0), (w 1076 0 0), (w 46 0), (w 47 0), (w 48 0), (w 49 0), (w 50 0), (w 51 0)) Pq (w 53 0) (w 54 0) k).2.2) (i4.toNatClampNeg + 1)) → V K E A 6 (QV K E A (P_X12_tick w z t)) 313 [(5, .int i4), (4, .int dr), (3, .int wh), (2, .int sv), (0, .ref (E.ad 12 0)), (1, .int t)] [] (wS (wS (wS (wS w 52 0 P9) 53 0 T9) 54 0 Y9) 55 0 Fl) z := by
                                    intro P9 T9 Y9 hinv
                                    obtain ⟨f1, f2, f3⟩ := hinv
                                    refine v_iinc (v := i4 + 1) (lv2 := [(5, .int (i4 + 1)), (4, .int dr), (3, .int wh), (2, .int sv), (0, .ref (E.ad 12 0)), (1, .int t)]) C 0 dX12_tick_313 rfl rfl (by decide) rfl ?_
                                    refine v_goto C 288 dX12_tick_316 (by decide) ?_
                                    exact ih_288 (i4 + 1) P9 T9 Y9 (by clear C ih_80 ih_157 ih_241 ih_288; exact Nat.lt_of_lt_of_le (m_up (by clear eP eT eY; grind) (by clear eP eT eY; grind)) (Nat.le_of_lt_succ hm_)) (by clear C ih_80 ih_157 ih_241 ih_288; rw [cl_succ (by clear eP eT eY; grind) (by clear eP eT eY; grind)]; exact ⟨by clear eP eT eY f1 f2 f3; grind, by clear eP eT eY f1 f2 f3; grind, f1, f2, f3⟩)
                                  refine v_aload_n C 4 dX12_tick_297 rfl ?_
                                  refine v_gR C 12 0 29 47 0 (hM.2 _ (u_12 0 (by decide))) k_12 (by decide) x_1271 (fun _ _ _ => rfl) dX12_tick_298 ?_
                                  refine v_iload C 0 dX12_tick_301 rfl ?_
                                  refine v_iald C 47 0 (hM.2 _ (u_47 0 (by decide))) ⟨by decide, rfl, rfl⟩ (by exact v_in (N := 17) (by decide) (by clear e2 ew ed es; grind) (by clear e2 ew ed es; grind)) dX12_tick_303 ?_
                                  refine v_i (y := ((w 47 0) i4.toNatClampNeg)) (by simp only [wS_s, wS_t, wS_a, ne_eq, Nat.reduceEqDiff, not_false_eq_true, L7_1]) ?_
                                  refine v_if_ne C 313 dX12_tick_304 (by decide) (fun c_304 => ?_) (fun c_304 => ?_)
                                  · exact hL313 Pv Tv Yv (by clear C ih_80 ih_157 ih_241 ih_288 hL313; first | exact cell_go (R := ((w 1074 0 0), (w 1075 0 0), (w 1076 0 0), (w 46 0), (w 47 0), (w 48 0), (w 49 0), (w 50 0), (w 51 0))) (cl_pos m1) eP eT eY (by assumption) | exact cell_no (R := ((w 1074 0 0), (w 1075 0 0), (w 1076 0 0), (w 46 0), (w 47 0), (w 48 0), (w 49 0), (w 50 0), (w 51 0))) (cl_pos m1) eP eT eY (by assumption))
                                  · refine v_aload_n C 4 dX12_tick_307 rfl ?_
                                    refine v_iload C 0 dX12_tick_308 rfl ?_
                                    refine v_vV C 12 0 [.int i4] 1 (c_X12_valve E hM _ _  i4  (by clear C ih_80 ih_157 ih_241 ih_288 hL313; (try simp only [wS_s, wS_t, wS_a, ne_eq, Nat.reduceEqDiff, not_false_eq_true, L7_1]); clear eP eT eY; grind) (by clear C ih_80 ih_157 ih_241 ih_288 hL313; (try simp only [wS_s, wS_t, wS_a, ne_eq, Nat.reduceEqDiff, not_false_eq_true, L7_1]); clear eP eT eY; grind)) m_X12_valve x_1601 x_1603 x_59 p_X12_valve rfl ⟨Nat.le_of_ble_eq_true rfl, Nat.le_of_ble_eq_true rfl⟩ (hM.2 _ (u_12 0 (by decide))) k_12 rfl (Nat.le_of_ble_eq_true rfl) dX12_tick_310 (fun u3 v3 hp3 => ?_)
                                    have hu3 := hp3
                                    cases hu3
                                    refine v_w (w2 := (wS (wS (wS (wS w 52 0 (upd Pv (i4).toNatClampNeg (vlvG ((w 46 0) (i4).toNatClampNeg) ((w 51 0) (i4).toNatClampNeg) ((w 48 0) (i4).toNatClampNeg) (Pv (i4).toNatClampNeg) (Tv (i4).toNatClampNeg) (Yv (i4).toNatClampNeg)).1)) 53 0 (upd Tv (i4).toNatClampNeg (vlvG ((w 46 0) (i4).toNatClampNeg) ((w 51 0) (i4).toNatClampNeg) ((w 48 0) (i4).toNatClampNeg) (Pv (i4).toNatClampNeg) (Tv (i4).toNatClampNeg) (Yv (i4).toNatClampNeg)).2.1)) 54 0 (upd Yv (i4).toNatClampNeg (vlvG ((w 46 0) (i4).toNatClampNeg) ((w 51 0) (i4).toNatClampNeg) ((w 48 0) (i4).toNatClampNeg) (Pv (i4).toNatClampNeg) (Tv (i4).toNatClampNeg) (Yv (i4).toNatClampNeg)).2.2)) 55 0 Fl)) (by simp only [wS_s, wS_t, wS_a, ne_eq, Nat.reduceEqDiff, not_false_eq_true, wS_wS, wS_p, wS_pp, Nat.reduceLT, id_eq, L7_1]) ?_
                                    exact hL313 (upd Pv (i4).toNatClampNeg (vlvG ((w 46 0) (i4).toNatClampNeg) ((w 51 0) (i4).toNatClampNeg) ((w 48 0) (i4).toNatClampNeg) (Pv (i4).toNatClampNeg) (Tv (i4).toNatClampNeg) (Yv (i4).toNatClampNeg)).1) (upd Tv (i4).toNatClampNeg (vlvG ((w 46 0) (i4).toNatClampNeg) ((w 51 0) (i4).toNatClampNeg) ((w 48 0) (i4).toNatClampNeg) (Pv (i4).toNatClampNeg) (Tv (i4).toNatClampNeg) (Yv (i4).toNatClampNeg)).2.1) (upd Yv (i4).toNatClampNeg (vlvG ((w 46 0) (i4).toNatClampNeg) ((w 51 0) (i4).toNatClampNeg) ((w 48 0) (i4).toNatClampNeg) (Pv (i4).toNatClampNeg) (Tv (i4).toNatClampNeg) (Yv (i4).toNatClampNeg)).2.2) (by clear C ih_80 ih_157 ih_241 ih_288 hL313; first | exact cell_go (R := ((w 1074 0 0), (w 1075 0 0), (w 1076 0 0), (w 46 0), (w 47 0), (w 48 0), (w 49 0), (w 50 0), (w 51 0))) (cl_pos m1) eP eT eY (by assumption) | exact cell_no (R := ((w 1074 0 0), (w 1075 0 0), (w 1076 0 0), (w 46 0), (w 47 0), (w 48 0), (w 49 0), (w 50 0), (w 51 0))) (cl_pos m1) eP eT eY (by assumption))
                            refine v_w (wS_id _ 53 0).symm ?_
                            refine v_w (wS_id _ 54 0).symm ?_
                            refine v_w (w2 := (wS (wS (wS (wS w 52 0 Pq) 53 0 (w 53 0)) 54 0 (w 54 0)) 55 0 Fl)) (by simp only [wS_s, wS_t, wS_a, ne_eq, Nat.reduceEqDiff, not_false_eq_true, wS_wS, wS_p, wS_pp, Nat.reduceLT, id_eq, L7_1]) ?_
                            exact hL288 _ 1 Pq (w 53 0) (w 54 0) (Nat.lt_succ_self _) (by clear C ih_80 ih_157 ih_241 hL288; exact ⟨by decide, by grind, (cpR_1 _ _).symm, (cpR_1 _ _).symm, (cpR_1 _ _).symm⟩)
                          refine v_iload C 0 dX12_tick_241 rfl ?_
                          refine v_aload_n C 4 dX12_tick_243 rfl ?_
                          refine v_gI C 12 0 14 1074 (w 1074 0 0) (hM.2 _ (u_12 0 (by decide))) k_12 (by decide) rfl rfl x_1256 (by simp only [wS_s, wS_t, wS_a, ne_eq, Nat.reduceEqDiff, not_false_eq_true, L7_1]) dX12_tick_244 ?_
                          refine v_ic_gt C 285 dX12_tick_247 (by decide) (fun c_247 => ?_) (fun c_247 => ?_)
                          · refine v_l [1, 2, 3, 4, 5] rfl ?_
                            exact hL285  (by clear C ih_80 ih_157 ih_241 hL285; rw [show ((w 1074 0 0) + 1) = i3 by clear l3 l4; grind]; exact l3)
                          · refine v_aload_n C 4 dX12_tick_250 rfl ?_
                            refine v_gR C 12 0 34 52 0 (hM.2 _ (u_12 0 (by decide))) k_12 (by decide) x_1276 (fun _ _ _ => rfl) dX12_tick_251 ?_
                            refine v_iload C 0 dX12_tick_254 rfl ?_
                            refine v_dup2 C dX12_tick_256 rfl rfl ?_
                            refine v_iald C 52 0 (hM.2 _ (u_52 0 (by decide))) ⟨by decide, rfl, rfl⟩ (by exact v_in (N := 17) (by decide) (by clear e2 ew ed es; grind) (by clear e2 ew ed es; grind)) dX12_tick_257 ?_
                            refine v_i (y := (Pq i3.toNatClampNeg)) (by simp only [wS_s, wS_t, wS_a, ne_eq, Nat.reduceEqDiff, not_false_eq_true, L7_1]) ?_
                            refine v_aload_n C 4 dX12_tick_258 rfl ?_
                            refine v_gR C 12 0 34 52 0 (hM.2 _ (u_12 0 (by decide))) k_12 (by decide) x_1276 (fun _ _ _ => rfl) dX12_tick_259 ?_
                            refine v_iload C 0 dX12_tick_262 rfl ?_
                            refine v_iald C 52 0 (hM.2 _ (u_52 0 (by decide))) ⟨by decide, rfl, rfl⟩ (by exact v_in (N := 17) (by decide) (by clear e2 ew ed es; grind) (by clear e2 ew ed es; grind)) dX12_tick_264 ?_
                            refine v_i (y := (Pq i3.toNatClampNeg)) (by simp only [wS_s, wS_t, wS_a, ne_eq, Nat.reduceEqDiff, not_false_eq_true, L7_1]) ?_
                            refine v_aload_n C 4 dX12_tick_265 rfl ?_
                            refine v_gR C 12 0 31 49 0 (hM.2 _ (u_12 0 (by decide))) k_12 (by decide) x_1273 (fun _ _ _ => rfl) dX12_tick_266 ?_
                            refine v_iload C 0 dX12_tick_269 rfl ?_
                            refine v_iald C 49 0 (hM.2 _ (u_49 0 (by decide))) ⟨by decide, rfl, rfl⟩ (by exact v_in (N := 17) (by decide) (by clear e2 ew ed es; grind) (by clear e2 ew ed es; grind)) dX12_tick_271 ?_
                            refine v_i (y := ((w 49 0) i3.toNatClampNeg)) (by simp only [wS_s, wS_t, wS_a, ne_eq, Nat.reduceEqDiff, not_false_eq_true, L7_1]) ?_
                            refine v_imul C dX12_tick_272 ?_
                            refine v_sipush (v := 1000) C dX12_tick_273 (by decide) ?_
                            refine v_idiv C dX12_tick_276 (by decide) ?_
                            refine v_isub C dX12_tick_277 ?_
                            refine v_iast C 52 0 (hM.2 _ (u_52 0 (by decide))) ⟨by decide, rfl, rfl⟩ (by exact v_in (N := 17) (by decide) (by clear e2 ew ed es; grind) (by clear e2 ew ed es; grind)) dX12_tick_278 ?_
                            refine v_iinc (v := i3 + 1) (lv2 := [(5, .int (i3 + 1)), (4, .int dr), (3, .int wh), (2, .int sv), (0, .ref (E.ad 12 0)), (1, .int t)]) C 0 dX12_tick_279 rfl rfl (by decide) rfl ?_
                            refine v_goto C 241 dX12_tick_282 (by decide) ?_
                            refine v_w (w2 := (wS (wS w 52 0 (upd Pq i3.toNatClampNeg ((Pq i3.toNatClampNeg) - (((Pq i3.toNatClampNeg) * ((w 49 0) i3.toNatClampNeg)) / 1000)))) 55 0 Fl)) (by simp only [wS_s, wS_t, wS_a, ne_eq, Nat.reduceEqDiff, not_false_eq_true, wS_wS, wS_p, wS_pp, Nat.reduceLT, id_eq, L7_1]) ?_
                            exact ih_241 (i3 + 1) (upd Pq i3.toNatClampNeg ((Pq i3.toNatClampNeg) - (((Pq i3.toNatClampNeg) * ((w 49 0) i3.toNatClampNeg)) / 1000))) (by clear C ih_80 ih_157 ih_241 hL285; exact Nat.lt_of_lt_of_le (m_up (by clear l3; grind) (by clear l3; grind)) (Nat.le_of_lt_succ hm_)) (by clear C ih_80 ih_157 ih_241 hL285; refine ⟨by clear l3 l4; grind, by clear l3 l4; grind, ?_⟩; rw [cl_succ (by clear l3 l4; grind) (by clear l3 l4; grind), ← cpR_s _ _ (cl_pos l1), ← l3, l4]; rfl)
                      exact hL241 _ 1 q (Nat.lt_succ_self _) (by clear C ih_80 ih_157 hL241; exact ⟨by decide, by grind, (cpR_1 _ _).symm⟩)
                    refine v_iload C 0 dX12_tick_157 rfl ?_
                    refine v_aload_n C 4 dX12_tick_159 rfl ?_
                    refine v_gI C 12 0 14 1074 (w 1074 0 0) (hM.2 _ (u_12 0 (by decide))) k_12 (by decide) rfl rfl x_1256 (by simp only [wS_s, wS_t, wS_a, ne_eq, Nat.reduceEqDiff, not_false_eq_true, L7_1]) dX12_tick_160 ?_
                    refine v_ic_gt C 208 dX12_tick_163 (by decide) (fun c_163 => ?_) (fun c_163 => ?_)
                    · refine v_iload_n C 5 dX12_tick_208 rfl ?_
                      refine v_aload_n C 4 dX12_tick_209 rfl ?_
                      refine v_gI C 12 0 41 1101 (w 1101 0 0) (hM.2 _ (u_12 0 (by decide))) k_12 (by decide) rfl rfl x_1283 (by simp only [wS_s, wS_t, wS_a, ne_eq, Nat.reduceEqDiff, not_false_eq_true, L7_1]) dX12_tick_210 ?_
                      refine v_ic_lt C 238 dX12_tick_213 (by decide) (fun c_213 => ?_) (fun c_213 => ?_)
                      · refine v_l [1, 2, 3, 4, 5] rfl ?_
                        exact hL238 Pp (by clear C ih_80 ih_157 hL238; have kk : Pp = fwR P2 (flR P2 (w 50 0) (brG t (w 1100 0 0) (w 1101 0 0))) ((w 1074 0 0) + 1).toNatClampNeg := (by rw [k3, show i2 = ((w 1074 0 0) + 1) by clear g3 k3; grind, eF]; exact flow_cp); rw [kk]; clear g3 k3 kk eF; first | (have b : (brG t (w 1100 0 0) (w 1101 0 0)) = (w 1100 0 0) := if_pos (by grind); rw [b]; simp only [flowF]; rw [if_pos ⟨h5, h6⟩]; done) | (have b : (brG t (w 1100 0 0) (w 1101 0 0)) = (-1) := if_neg (by grind); rw [b]; simp only [flowF]; rw [if_neg (by decide)]; done))
                      · refine v_aload_n C 4 dX12_tick_216 rfl ?_
                        refine v_gR C 12 0 34 52 0 (hM.2 _ (u_12 0 (by decide))) k_12 (by decide) x_1276 (fun _ _ _ => rfl) dX12_tick_217 ?_
                        refine v_aload_n C 4 dX12_tick_220 rfl ?_
                        refine v_gI C 12 0 40 1100 (w 1100 0 0) (hM.2 _ (u_12 0 (by decide))) k_12 (by decide) rfl rfl x_1282 (by simp only [wS_s, wS_t, wS_a, ne_eq, Nat.reduceEqDiff, not_false_eq_true, L7_1]) dX12_tick_221 ?_
                        refine v_iconst (v := 0) C dX12_tick_224 (by decide) ?_
                        refine v_iast C 52 0 (hM.2 _ (u_52 0 (by decide))) ⟨by decide, rfl, rfl⟩ (by exact v_in (N := 17) (by decide) (by clear e2 ew ed es; grind) (by clear e2 ew ed es; grind)) dX12_tick_225 ?_
                        refine v_aload_n C 4 dX12_tick_226 rfl ?_
                        refine v_gR C 12 0 34 52 0 (hM.2 _ (u_12 0 (by decide))) k_12 (by decide) x_1276 (fun _ _ _ => rfl) dX12_tick_227 ?_
                        refine v_aload_n C 4 dX12_tick_230 rfl ?_
                        refine v_gI C 12 0 40 1100 (w 1100 0 0) (hM.2 _ (u_12 0 (by decide))) k_12 (by decide) rfl rfl x_1282 (by simp only [wS_s, wS_t, wS_a, ne_eq, Nat.reduceEqDiff, not_false_eq_true, L7_1]) dX12_tick_231 ?_
                        refine v_iconst (v := 1) C dX12_tick_234 (by decide) ?_
                        refine v_iadd C dX12_tick_235 ?_
                        refine v_iconst (v := 0) C dX12_tick_236 (by decide) ?_
                        refine v_iast C 52 0 (hM.2 _ (u_52 0 (by decide))) ⟨by decide, rfl, rfl⟩ (by exact v_in (N := 17) (by decide) (by clear e2 ew ed es; grind) (by clear e2 ew ed es; grind)) dX12_tick_237 ?_
                        refine v_w (w2 := (wS (wS w 52 0 (upd (upd Pp (w 1100 0 0).toNatClampNeg 0) ((w 1100 0 0) + 1).toNatClampNeg 0)) 55 0 Fl)) (by simp only [wS_s, wS_t, wS_a, ne_eq, Nat.reduceEqDiff, not_false_eq_true, wS_wS, wS_p, wS_pp, Nat.reduceLT, id_eq, L7_1]) ?_
                        refine v_l [1, 2, 3, 4, 5] rfl ?_
                        exact hL238 (upd (upd Pp (w 1100 0 0).toNatClampNeg 0) ((w 1100 0 0) + 1).toNatClampNeg 0) (by clear C ih_80 ih_157 hL238; have kk : Pp = fwR P2 (flR P2 (w 50 0) (brG t (w 1100 0 0) (w 1101 0 0))) ((w 1074 0 0) + 1).toNatClampNeg := (by rw [k3, show i2 = ((w 1074 0 0) + 1) by clear g3 k3; grind, eF]; exact flow_cp); rw [kk]; clear g3 k3 kk eF; first | (have b : (brG t (w 1100 0 0) (w 1101 0 0)) = (w 1100 0 0) := if_pos (by grind); rw [b]; simp only [flowF]; rw [if_pos ⟨h5, h6⟩]; done) | (have b : (brG t (w 1100 0 0) (w 1101 0 0)) = (-1) := if_neg (by grind); rw [b]; simp only [flowF]; rw [if_neg (by decide)]; done))
                    · refine v_aload_n C 4 dX12_tick_166 rfl ?_
                      refine v_gR C 12 0 34 52 0 (hM.2 _ (u_12 0 (by decide))) k_12 (by decide) x_1276 (fun _ _ _ => rfl) dX12_tick_167 ?_
                      refine v_iload C 0 dX12_tick_170 rfl ?_
                      refine v_iconst (v := 1) C dX12_tick_172 (by decide) ?_
                      refine v_isub C dX12_tick_173 ?_
                      refine v_dup2 C dX12_tick_174 rfl rfl ?_
                      refine v_iald C 52 0 (hM.2 _ (u_52 0 (by decide))) ⟨by decide, rfl, rfl⟩ (by exact v_in (N := 17) (by decide) (by clear e2 ew ed es; grind) (by clear e2 ew ed es; grind)) dX12_tick_175 ?_
                      refine v_i (y := (Pp (i2 - 1).toNatClampNeg)) (by simp only [wS_s, wS_t, wS_a, ne_eq, Nat.reduceEqDiff, not_false_eq_true, L7_1]) ?_
                      refine v_aload_n C 4 dX12_tick_176 rfl ?_
                      refine v_gR C 12 0 37 55 0 (hM.2 _ (u_12 0 (by decide))) k_12 (by decide) x_1279 (fun _ _ _ => rfl) dX12_tick_177 ?_
                      refine v_iload C 0 dX12_tick_180 rfl ?_
                      refine v_iald C 55 0 (hM.2 _ (u_55 0 (by decide))) ⟨by decide, rfl, rfl⟩ (by exact v_in (N := 18) (by decide) (by clear e2 ew ed es; grind) (by clear e2 ew ed es; grind)) dX12_tick_182 ?_
                      refine v_i (y := (Fl i2.toNatClampNeg)) (by simp only [wS_s, wS_t, wS_a, ne_eq, Nat.reduceEqDiff, not_false_eq_true, L7_1]) ?_
                      refine v_isub C dX12_tick_183 ?_
                      refine v_iast C 52 0 (hM.2 _ (u_52 0 (by decide))) ⟨by decide, rfl, rfl⟩ (by exact v_in (N := 17) (by decide) (by clear e2 ew ed es; grind) (by clear e2 ew ed es; grind)) dX12_tick_184 ?_
                      refine v_aload_n C 4 dX12_tick_185 rfl ?_
                      refine v_gR C 12 0 34 52 0 (hM.2 _ (u_12 0 (by decide))) k_12 (by decide) x_1276 (fun _ _ _ => rfl) dX12_tick_186 ?_
                      refine v_iload C 0 dX12_tick_189 rfl ?_
                      refine v_dup2 C dX12_tick_191 rfl rfl ?_
                      refine v_iald C 52 0 (hM.2 _ (u_52 0 (by decide))) ⟨by decide, rfl, rfl⟩ (by exact v_in (N := 17) (by decide) (by clear e2 ew ed es; grind) (by clear e2 ew ed es; grind)) dX12_tick_192 ?_
                      refine v_i (y := ((upd Pp (i2 - 1).toNatClampNeg ((Pp (i2 - 1).toNatClampNeg) - (Fl i2.toNatClampNeg))) i2.toNatClampNeg)) (by simp only [wS_s, wS_t, wS_a, ne_eq, Nat.reduceEqDiff, not_false_eq_true, L7_1]) ?_
                      refine v_aload_n C 4 dX12_tick_193 rfl ?_
                      refine v_gR C 12 0 37 55 0 (hM.2 _ (u_12 0 (by decide))) k_12 (by decide) x_1279 (fun _ _ _ => rfl) dX12_tick_194 ?_
                      refine v_iload C 0 dX12_tick_197 rfl ?_
                      refine v_iald C 55 0 (hM.2 _ (u_55 0 (by decide))) ⟨by decide, rfl, rfl⟩ (by exact v_in (N := 18) (by decide) (by clear e2 ew ed es; grind) (by clear e2 ew ed es; grind)) dX12_tick_199 ?_
                      refine v_i (y := (Fl i2.toNatClampNeg)) (by simp only [wS_s, wS_t, wS_a, ne_eq, Nat.reduceEqDiff, not_false_eq_true, L7_1]) ?_
                      refine v_iadd C dX12_tick_200 ?_
                      refine v_iast C 52 0 (hM.2 _ (u_52 0 (by decide))) ⟨by decide, rfl, rfl⟩ (by exact v_in (N := 17) (by decide) (by clear e2 ew ed es; grind) (by clear e2 ew ed es; grind)) dX12_tick_201 ?_
                      refine v_iinc (v := i2 + 1) (lv2 := [(5, .int (i2 + 1)), (4, .int dr), (3, .int wh), (2, .int sv), (0, .ref (E.ad 12 0)), (1, .int t)]) C 0 dX12_tick_202 rfl rfl (by decide) rfl ?_
                      refine v_goto C 157 dX12_tick_205 (by decide) ?_
                      refine v_w (w2 := (wS (wS w 52 0 (upd (upd Pp (i2 - 1).toNatClampNeg ((Pp (i2 - 1).toNatClampNeg) - (Fl i2.toNatClampNeg))) i2.toNatClampNeg (((upd Pp (i2 - 1).toNatClampNeg ((Pp (i2 - 1).toNatClampNeg) - (Fl i2.toNatClampNeg))) i2.toNatClampNeg) + (Fl i2.toNatClampNeg)))) 55 0 Fl)) (by simp only [wS_s, wS_t, wS_a, ne_eq, Nat.reduceEqDiff, not_false_eq_true, wS_wS, wS_p, wS_pp, Nat.reduceLT, id_eq, L7_1]) ?_
                      exact ih_157 (i2 + 1) (upd (upd Pp (i2 - 1).toNatClampNeg ((Pp (i2 - 1).toNatClampNeg) - (Fl i2.toNatClampNeg))) i2.toNatClampNeg (((upd Pp (i2 - 1).toNatClampNeg ((Pp (i2 - 1).toNatClampNeg) - (Fl i2.toNatClampNeg))) i2.toNatClampNeg) + (Fl i2.toNatClampNeg))) (by clear C ih_80 ih_157 hL238; exact Nat.lt_of_lt_of_le (m_up (by clear g3 k3; grind) (by clear g3 k3; grind)) (Nat.le_of_lt_succ hm_)) (by clear C ih_80 ih_157 hL238; refine ⟨by clear g3 k3; grind, by clear g3 k3; grind, ?_⟩; rw [cl_succ (by clear g3 k3; grind) (by clear g3 k3; grind), ← fwR_s _ _ (cl_pos k1), ← k3, k4])
                exact hL157 _ 1 P2 (Nat.lt_succ_self _) (by clear C ih_80 hL157; exact ⟨by decide, by clear g3; grind, (fwR_1 _ _).symm⟩)
              refine v_iload C 0 dX12_tick_80 rfl ?_
              refine v_aload_n C 4 dX12_tick_82 rfl ?_
              refine v_gI C 12 0 14 1074 (w 1074 0 0) (hM.2 _ (u_12 0 (by decide))) k_12 (by decide) rfl rfl x_1256 (by simp only [wS_s, wS_t, wS_a, ne_eq, Nat.reduceEqDiff, not_false_eq_true, L7_1]) dX12_tick_83 ?_
              refine v_ic_gt C 154 dX12_tick_86 (by decide) (fun c_86 => ?_) (fun c_86 => ?_)
              · refine v_l [1, 2, 3, 4, 5] rfl ?_
                exact hL154  (by clear C ih_80 hL154; rw [show ((w 1074 0 0) + 1) = i by clear g3; grind]; exact g3)
              · refine v_aload_n C 4 dX12_tick_89 rfl ?_
                refine v_gR C 12 0 37 55 0 (hM.2 _ (u_12 0 (by decide))) k_12 (by decide) x_1279 (fun _ _ _ => rfl) dX12_tick_90 ?_
                refine v_iload C 0 dX12_tick_93 rfl ?_
                have hL147 : ∀ (f : Int32), (f = flR P2 (w 50 0) (brG t (w 1100 0 0) (w 1101 0 0)) i.toNatClampNeg) → V K E A 6 (QV K E A (P_X12_tick w z t)) 147 [(5, .int i), (4, .int dr), (3, .int wh), (2, .int sv), (0, .ref (E.ad 12 0)), (1, .int t)] [.int f, .int i, .ref (E.ad 55 0)] (wS (wS w 52 0 P2) 55 0 Fl) z := by
                  intro f hinv
                  have ef := hinv
                  refine v_iast C 55 0 (hM.2 _ (u_55 0 (by decide))) ⟨by decide, rfl, rfl⟩ (by exact v_in (N := 18) (by decide) (by clear e2 ew ed es; grind) (by clear e2 ew ed es; grind)) dX12_tick_147 ?_
                  refine v_iinc (v := i + 1) (lv2 := [(5, .int (i + 1)), (4, .int dr), (3, .int wh), (2, .int sv), (0, .ref (E.ad 12 0)), (1, .int t)]) C 0 dX12_tick_148 rfl rfl (by decide) rfl ?_
                  refine v_goto C 80 dX12_tick_151 (by decide) ?_
                  refine v_w (w2 := (wS (wS w 52 0 P2) 55 0 (upd Fl i.toNatClampNeg f))) (by simp only [wS_s, wS_t, wS_a, ne_eq, Nat.reduceEqDiff, not_false_eq_true, wS_wS, wS_p, wS_pp, Nat.reduceLT, id_eq, L7_1]) ?_
                  exact ih_80 (i + 1) (upd Fl i.toNatClampNeg f) (by clear C ih_80 hL154; exact Nat.lt_of_lt_of_le (m_up (by clear g3; grind) (by clear g3; grind)) (Nat.le_of_lt_succ hm_)) (by clear C ih_80 hL154; refine ⟨by clear g3 ef; grind, by clear g3 ef; grind, ?_⟩; rw [cl_succ (by clear g3 ef; grind) (by clear g3 ef; grind), ← cpR_s _ _ (cl_pos g1), ← g3, ef])
                refine v_iload_n C 5 dX12_tick_95 rfl ?_
                refine v_aload_n C 4 dX12_tick_96 rfl ?_
                refine v_gI C 12 0 41 1101 (w 1101 0 0) (hM.2 _ (u_12 0 (by decide))) k_12 (by decide) rfl rfl x_1283 (by simp only [wS_s, wS_t, wS_a, ne_eq, Nat.reduceEqDiff, not_false_eq_true, L7_1]) dX12_tick_97 ?_
                refine v_ic_lt C 118 dX12_tick_100 (by decide) (fun c_100 => ?_) (fun c_100 => ?_)
                · refine v_aload_n C 4 dX12_tick_118 rfl ?_
                  refine v_gR C 12 0 34 52 0 (hM.2 _ (u_12 0 (by decide))) k_12 (by decide) x_1276 (fun _ _ _ => rfl) dX12_tick_119 ?_
                  refine v_iload C 0 dX12_tick_122 rfl ?_
                  refine v_iconst (v := 1) C dX12_tick_124 (by decide) ?_
                  refine v_isub C dX12_tick_125 ?_
                  refine v_iald C 52 0 (hM.2 _ (u_52 0 (by decide))) ⟨by decide, rfl, rfl⟩ (by exact v_in (N := 17) (by decide) (by clear e2 ew ed es; grind) (by clear e2 ew ed es; grind)) dX12_tick_126 ?_
                  refine v_i (y := (P2 (i - 1).toNatClampNeg)) (by simp only [wS_s, wS_t, wS_a, ne_eq, Nat.reduceEqDiff, not_false_eq_true, L7_1]) ?_
                  refine v_aload_n C 4 dX12_tick_127 rfl ?_
                  refine v_gR C 12 0 34 52 0 (hM.2 _ (u_12 0 (by decide))) k_12 (by decide) x_1276 (fun _ _ _ => rfl) dX12_tick_128 ?_
                  refine v_iload C 0 dX12_tick_131 rfl ?_
                  refine v_iald C 52 0 (hM.2 _ (u_52 0 (by decide))) ⟨by decide, rfl, rfl⟩ (by exact v_in (N := 17) (by decide) (by clear e2 ew ed es; grind) (by clear e2 ew ed es; grind)) dX12_tick_133 ?_
                  refine v_i (y := (P2 i.toNatClampNeg)) (by simp only [wS_s, wS_t, wS_a, ne_eq, Nat.reduceEqDiff, not_false_eq_true, L7_1]) ?_
                  refine v_isub C dX12_tick_134 ?_
                  refine v_aload_n C 4 dX12_tick_135 rfl ?_
                  refine v_gR C 12 0 32 50 0 (hM.2 _ (u_12 0 (by decide))) k_12 (by decide) x_1274 (fun _ _ _ => rfl) dX12_tick_136 ?_
                  refine v_iload C 0 dX12_tick_139 rfl ?_
                  refine v_iald C 50 0 (hM.2 _ (u_50 0 (by decide))) ⟨by decide, rfl, rfl⟩ (by exact v_in (N := 17) (by decide) (by clear e2 ew ed es; grind) (by clear e2 ew ed es; grind)) dX12_tick_141 ?_
                  refine v_i (y := ((w 50 0) i.toNatClampNeg)) (by simp only [wS_s, wS_t, wS_a, ne_eq, Nat.reduceEqDiff, not_false_eq_true, L7_1]) ?_
                  refine v_imul C dX12_tick_142 ?_
                  refine v_sipush (v := 400) C dX12_tick_143 (by decide) ?_
                  refine v_idiv C dX12_tick_146 (by decide) ?_
                  exact hL147 ((((P2 (i - 1).toNatClampNeg) - (P2 i.toNatClampNeg)) * ((w 50 0) i.toNatClampNeg)) / 400) (by clear C ih_80 hL154 hL147; simp only [flR, brG, nI_cl (show (0 : Int32) ≤ i by clear g3; grind)]; rw [← cl_pred g1]; clear g3; grind)
                · refine v_iload C 0 dX12_tick_103 rfl ?_
                  refine v_aload_n C 4 dX12_tick_105 rfl ?_
                  refine v_gI C 12 0 40 1100 (w 1100 0 0) (hM.2 _ (u_12 0 (by decide))) k_12 (by decide) rfl rfl x_1282 (by simp only [wS_s, wS_t, wS_a, ne_eq, Nat.reduceEqDiff, not_false_eq_true, L7_1]) dX12_tick_106 ?_
                  refine v_iconst (v := 1) C dX12_tick_109 (by decide) ?_
                  refine v_iadd C dX12_tick_110 ?_
                  refine v_ic_ne C 118 dX12_tick_111 (by decide) (fun c_111 => ?_) (fun c_111 => ?_)
                  · refine v_aload_n C 4 dX12_tick_118 rfl ?_
                    refine v_gR C 12 0 34 52 0 (hM.2 _ (u_12 0 (by decide))) k_12 (by decide) x_1276 (fun _ _ _ => rfl) dX12_tick_119 ?_
                    refine v_iload C 0 dX12_tick_122 rfl ?_
                    refine v_iconst (v := 1) C dX12_tick_124 (by decide) ?_
                    refine v_isub C dX12_tick_125 ?_
                    refine v_iald C 52 0 (hM.2 _ (u_52 0 (by decide))) ⟨by decide, rfl, rfl⟩ (by exact v_in (N := 17) (by decide) (by clear e2 ew ed es; grind) (by clear e2 ew ed es; grind)) dX12_tick_126 ?_
                    refine v_i (y := (P2 (i - 1).toNatClampNeg)) (by simp only [wS_s, wS_t, wS_a, ne_eq, Nat.reduceEqDiff, not_false_eq_true, L7_1]) ?_
                    refine v_aload_n C 4 dX12_tick_127 rfl ?_
                    refine v_gR C 12 0 34 52 0 (hM.2 _ (u_12 0 (by decide))) k_12 (by decide) x_1276 (fun _ _ _ => rfl) dX12_tick_128 ?_
                    refine v_iload C 0 dX12_tick_131 rfl ?_
                    refine v_iald C 52 0 (hM.2 _ (u_52 0 (by decide))) ⟨by decide, rfl, rfl⟩ (by exact v_in (N := 17) (by decide) (by clear e2 ew ed es; grind) (by clear e2 ew ed es; grind)) dX12_tick_133 ?_
                    refine v_i (y := (P2 i.toNatClampNeg)) (by simp only [wS_s, wS_t, wS_a, ne_eq, Nat.reduceEqDiff, not_false_eq_true, L7_1]) ?_
                    refine v_isub C dX12_tick_134 ?_
                    refine v_aload_n C 4 dX12_tick_135 rfl ?_
                    refine v_gR C 12 0 32 50 0 (hM.2 _ (u_12 0 (by decide))) k_12 (by decide) x_1274 (fun _ _ _ => rfl) dX12_tick_136 ?_
                    refine v_iload C 0 dX12_tick_139 rfl ?_
                    refine v_iald C 50 0 (hM.2 _ (u_50 0 (by decide))) ⟨by decide, rfl, rfl⟩ (by exact v_in (N := 17) (by decide) (by clear e2 ew ed es; grind) (by clear e2 ew ed es; grind)) dX12_tick_141 ?_
                    refine v_i (y := ((w 50 0) i.toNatClampNeg)) (by simp only [wS_s, wS_t, wS_a, ne_eq, Nat.reduceEqDiff, not_false_eq_true, L7_1]) ?_
                    refine v_imul C dX12_tick_142 ?_
                    refine v_sipush (v := 400) C dX12_tick_143 (by decide) ?_
                    refine v_idiv C dX12_tick_146 (by decide) ?_
                    exact hL147 ((((P2 (i - 1).toNatClampNeg) - (P2 i.toNatClampNeg)) * ((w 50 0) i.toNatClampNeg)) / 400) (by clear C ih_80 hL154 hL147; simp only [flR, brG, nI_cl (show (0 : Int32) ≤ i by clear g3; grind)]; rw [← cl_pred g1]; clear g3; grind)
                  · refine v_iconst (v := 0) C dX12_tick_114 (by decide) ?_
                    refine v_goto C 147 dX12_tick_115 (by decide) ?_
                    exact hL147 0 (by clear C ih_80 hL154 hL147; simp only [flR, brG, nI_cl (show (0 : Int32) ≤ i by clear g3; grind)]; rw [← cl_pred g1]; clear g3; grind)
          refine v_w (wS_id _ 55 0).symm ?_
          refine v_w (w2 := (wS (wS w 52 0 P2) 55 0 (w 55 0))) (by simp only [wS_s, wS_t, wS_a, ne_eq, Nat.reduceEqDiff, not_false_eq_true, wS_wS, wS_p, wS_pp, Nat.reduceLT, id_eq, L7_1]) ?_
          exact hL80 _ 1 (w 55 0) (Nat.lt_succ_self _) (by clear C hL80; exact ⟨by decide, by grind, (cpR_1 _ _).symm⟩)
        refine v_aload_n C 3 dX12_tick_59 rfl ?_
        refine v_gI C 12 0 26 1086 (w 1086 0 0) (hM.2 _ (u_12 0 (by decide))) k_12 (by decide) rfl rfl x_1268 (by simp only [wS_s, wS_t, wS_a, ne_eq, Nat.reduceEqDiff, not_false_eq_true, L7_1]) dX12_tick_60 ?_
        refine v_if_eq C 77 dX12_tick_63 (by decide) (fun c_63 => ?_) (fun c_63 => ?_)
        · exact hL77 (workG (w 1075 0 0) (w 1076 0 0) (w 52 0) wh dr (0 : Int32)) (by clear C hL77; first | (rw [if_pos (by assumption)]; done) | (rw [if_neg (not_not_intro (by assumption))]; done))
        · refine v_aload_n C 3 dX12_tick_66 rfl ?_
          refine v_aload_n C 3 dX12_tick_67 rfl ?_
          refine v_gI C 12 0 14 1074 (w 1074 0 0) (hM.2 _ (u_12 0 (by decide))) k_12 (by decide) rfl rfl x_1256 (by simp only [wS_s, wS_t, wS_a, ne_eq, Nat.reduceEqDiff, not_false_eq_true, L7_1]) dX12_tick_68 ?_
          refine v_iload_n C 1 dX12_tick_71 rfl ?_
          refine v_iload C 0 dX12_tick_72 rfl ?_
          refine v_vV C 12 0 [.int (w 1074 0 0), .int wh, .int dr] 3 (c_X12_act E hM _ _  (w 1074 0 0) wh dr  (by clear C hL77; (try simp only [wS_s, wS_t, wS_a, ne_eq, Nat.reduceEqDiff, not_false_eq_true, L7_1]); grind) (by clear C hL77; (try simp only [wS_s, wS_t, wS_a, ne_eq, Nat.reduceEqDiff, not_false_eq_true, L7_1]); grind)) m_X12_act x_1597 x_1599 x_58 p_X12_act rfl ⟨Nat.le_of_ble_eq_true rfl, Nat.le_of_ble_eq_true rfl⟩ (hM.2 _ (u_12 0 (by decide))) k_12 rfl (Nat.le_of_ble_eq_true rfl) dX12_tick_74 (fun u4 v4 hp4 => ?_)
          have hu4 := hp4
          cases hu4
          refine v_w (w2 := (wS w 52 0 (workG (w 1075 0 0) (w 1076 0 0) (workG (w 1075 0 0) (w 1076 0 0) (w 52 0) wh dr (0 : Int32)) wh dr (w 1074 0 0)))) (by simp only [wS_s, wS_t, wS_a, ne_eq, Nat.reduceEqDiff, not_false_eq_true, wS_wS, wS_p, wS_pp, Nat.reduceLT, id_eq, L7_1]) ?_
          exact hL77 (workG (w 1075 0 0) (w 1076 0 0) (workG (w 1075 0 0) (w 1076 0 0) (w 52 0) wh dr (0 : Int32)) wh dr (w 1074 0 0)) (by clear C hL77; first | (rw [if_pos (by assumption)]; done) | (rw [if_neg (not_not_intro (by assumption))]; done))
      refine v_iload_n C 1 dX12_tick_34 rfl ?_
      refine v_iconst (v := (-1)) C dX12_tick_35 (by decide) ?_
      refine v_ic_ne C 43 dX12_tick_36 (by decide) (fun c_36 => ?_) (fun c_36 => ?_)
      · refine v_aload_n C 2 dX12_tick_43 rfl ?_
        refine v_gR C 12 0 22 44 0 (hM.2 _ (u_12 0 (by decide))) k_12 (by decide) x_1264 (fun _ _ _ => rfl) dX12_tick_44 ?_
        refine v_iload_n C 1 dX12_tick_47 rfl ?_
        refine v_iald C 44 0 (hM.2 _ (u_44 0 (by decide))) ⟨by decide, rfl, rfl⟩ (by exact v_in (N := 40) (by decide) (by grind) (by grind)) dX12_tick_48 ?_
        exact hL49 ((w 44 0) sv.toNatClampNeg) (by clear C hL49; simp only [drG]; rw [← es]; grind)
      · refine v_iconst (v := 0) C dX12_tick_39 (by decide) ?_
        refine v_goto C 49 dX12_tick_40 (by decide) ?_
        exact hL49 0 (by clear C hL49; simp only [drG]; rw [← es]; grind)
    refine v_iload_n C 2 dX12_tick_6 rfl ?_
    refine v_aload_n C 1 dX12_tick_7 rfl ?_
    refine v_gI C 12 0 39 1099 (w 1099 0 0) (hM.2 _ (u_12 0 (by decide))) k_12 (by decide) rfl rfl x_1281 rfl dX12_tick_8 ?_
    refine v_ic_lt C 18 dX12_tick_11 (by decide) (fun c_11 => ?_) (fun c_11 => ?_)
    · refine v_iload_n C 0 dX12_tick_18 rfl ?_
      refine v_iconst (v := (-1)) C dX12_tick_19 (by decide) ?_
      refine v_ic_ne C 27 dX12_tick_20 (by decide) (fun c_20 => ?_) (fun c_20 => ?_)
      · refine v_aload_n C 1 dX12_tick_27 rfl ?_
        refine v_gR C 12 0 21 43 0 (hM.2 _ (u_12 0 (by decide))) k_12 (by decide) x_1263 (fun _ _ _ => rfl) dX12_tick_28 ?_
        refine v_iload_n C 0 dX12_tick_31 rfl ?_
        refine v_iald C 43 0 (hM.2 _ (u_43 0 (by decide))) ⟨by decide, rfl, rfl⟩ (by exact v_in (N := 40) (by decide) (by grind) (by grind)) dX12_tick_32 ?_
        exact hL33 ((w 43 0) sv.toNatClampNeg) (by clear C hL33; simp only [whG]; rw [← es]; grind)
      · refine v_iconst (v := 1) C dX12_tick_23 (by decide) ?_
        refine v_goto C 33 dX12_tick_24 (by decide) ?_
        exact hL33 1 (by clear C hL33; simp only [whG]; rw [← es]; grind)
    · refine v_iconst (v := 3) C dX12_tick_14 (by decide) ?_
      refine v_goto C 33 dX12_tick_15 (by decide) ?_
      exact hL33 3 (by clear C hL33; simp only [whG]; rw [← es]; grind)
  exact hL5 (saR (w 45 0) ((w 1084 0 0)).toNatClampNeg 0 t) (by clear C hL5; rfl)
