abbrev P_X12_valve (w : Wi) (z : Wj) (k : Int32) : WW → Prop := fun u_ => u_ = ((wS (wS (wS w 52 0 (upd (w 52 0) (k).toNatClampNeg (vlvG ((w 46 0) (k).toNatClampNeg) ((w 51 0) (k).toNatClampNeg) ((w 48 0) (k).toNatClampNeg) ((w 52 0) (k).toNatClampNeg) ((w 53 0) (k).toNatClampNeg) ((w 54 0) (k).toNatClampNeg)).1)) 53 0 (upd (w 53 0) (k).toNatClampNeg (vlvG ((w 46 0) (k).toNatClampNeg) ((w 51 0) (k).toNatClampNeg) ((w 48 0) (k).toNatClampNeg) ((w 52 0) (k).toNatClampNeg) ((w 53 0) (k).toNatClampNeg) ((w 54 0) (k).toNatClampNeg)).2.1)) 54 0 (upd (w 54 0) (k).toNatClampNeg (vlvG ((w 46 0) (k).toNatClampNeg) ((w 51 0) (k).toNatClampNeg) ((w 48 0) (k).toNatClampNeg) ((w 52 0) (k).toNatClampNeg) ((w 53 0) (k).toNatClampNeg) ((w 54 0) (k).toNatClampNeg)).2.2)), z)
set_option maxHeartbeats 4000000 in
set_option maxRecDepth 100000 in
theorem c_X12_valve (E : En) (hM : q_okM E) (w : Wi) (z : Wj) (k : Int32) (h1 : 1 ≤ k) (h2 : k ≤ 16) : CtV M_X12_valve E [.ref (E.ad 12 0), .int k] w z (P_X12_valve w z k) := by
  have hE := hM.1
  refine ctV_of (lv := [(0, .ref (E.ad 12 0)), (1, .int k)]) hE m_X12_valve (Nat.le_of_ble_eq_true rfl) rfl ?_
  intro K A C0
  have C : Cx K E A cX12_valve 6 RX12 none { frames := 1, cells := 0, slots := 0, locals := 20 } := C0
  clear C0
  obtain ⟨K1, hK1⟩ : ∃ K1 : Nat, K1 = k.toNatClampNeg := ⟨_, rfl⟩
  refine v_aload_n C 0 dX12_valve_0 rfl ?_
  refine v_gR C 12 0 34 52 0 (hM.2 _ (u_12 0 (by decide))) k_12 (by decide) x_1276 (fun _ _ _ => rfl) dX12_valve_1 ?_
  refine v_iload_n C 1 dX12_valve_4 rfl ?_
  refine v_iald C 52 0 (hM.2 _ (u_52 0 (by decide))) ⟨by decide, rfl, rfl⟩ (v_in (N := 17) (by decide) (by clear C; grind) (by clear C; grind)) dX12_valve_5 ?_
  refine v_aload_n C 0 dX12_valve_6 rfl ?_
  refine v_gR C 12 0 35 53 0 (hM.2 _ (u_12 0 (by decide))) k_12 (by decide) x_1277 (fun _ _ _ => rfl) dX12_valve_7 ?_
  refine v_iload_n C 1 dX12_valve_10 rfl ?_
  refine v_iald C 53 0 (hM.2 _ (u_53 0 (by decide))) ⟨by decide, rfl, rfl⟩ (v_in (N := 17) (by decide) (by clear C; grind) (by clear C; grind)) dX12_valve_11 ?_
  refine v_isub C dX12_valve_12 ?_
  refine v_istore_n (lv2 := [(2, .int (((w 52 0) k.toNatClampNeg) - ((w 53 0) k.toNatClampNeg))), (0, .ref (E.ad 12 0)), (1, .int k)]) C dX12_valve_13 rfl (by decide) rfl ?_
  refine v_aload_n C 1 dX12_valve_14 rfl ?_
  refine v_gR C 12 0 28 46 0 (hM.2 _ (u_12 0 (by decide))) k_12 (by decide) x_1270 (fun _ _ _ => rfl) dX12_valve_15 ?_
  refine v_iload_n C 2 dX12_valve_18 rfl ?_
  refine v_iald C 46 0 (hM.2 _ (u_46 0 (by decide))) ⟨by decide, rfl, rfl⟩ (v_in (N := 17) (by decide) (by clear C; grind) (by clear C; grind)) dX12_valve_19 ?_
  refine v_istore_n (lv2 := [(3, .int ((w 46 0) k.toNatClampNeg)), (2, .int (((w 52 0) k.toNatClampNeg) - ((w 53 0) k.toNatClampNeg))), (0, .ref (E.ad 12 0)), (1, .int k)]) C dX12_valve_20 rfl (by decide) rfl ?_
  refine v_iload_n C 1 dX12_valve_21 rfl ?_
  refine v_iload_n C 0 dX12_valve_22 rfl ?_
  refine v_sI C [.int ((w 46 0) k.toNatClampNeg)] 1 (c_X12_sense E hM _ _  ((w 46 0) k.toNatClampNeg)  ) m_X12_sense x_1605 x_1606 p_X12_sense rfl ⟨Nat.le_of_ble_eq_true rfl, Nat.le_of_ble_eq_true rfl⟩ rfl (Nat.le_of_ble_eq_true rfl) dX12_valve_23 (fun r1 u1 v1 hp1 => ?_)
  obtain ⟨hr1, hu1⟩ := hp1
  subst hr1
  cases hu1
  refine v_ineg C dX12_valve_26 ?_
  refine v_ic_ge C 150 dX12_valve_27 (by decide) (fun c_27 => ?_) (fun c_27 => ?_)
  · refine v_iload_n C 1 dX12_valve_150 rfl ?_
    refine v_iload_n C 0 dX12_valve_151 rfl ?_
    refine v_sI C [.int ((w 46 0) k.toNatClampNeg)] 1 (c_X12_sense E hM _ _  ((w 46 0) k.toNatClampNeg)  ) m_X12_sense x_1605 x_1606 p_X12_sense rfl ⟨Nat.le_of_ble_eq_true rfl, Nat.le_of_ble_eq_true rfl⟩ rfl (Nat.le_of_ble_eq_true rfl) dX12_valve_152 (fun r2 u2 v2 hp2 => ?_)
    obtain ⟨hr2, hu2⟩ := hp2
    subst hr2
    cases hu2
    refine v_ic_le C 268 dX12_valve_155 (by decide) (fun c_155 => ?_) (fun c_155 => ?_)
    · refine v_w (wS_id _ 52 0).symm ?_
      refine v_w (wS_id _ 53 0).symm ?_
      refine v_w (wS_id _ 54 0).symm ?_
      refine v_w (w2 := (wS (wS (wS w 52 0 (w 52 0)) 53 0 (w 53 0)) 54 0 (w 54 0))) (by simp only [wS_s, wS_t, wS_a, ne_eq, Nat.reduceEqDiff, not_false_eq_true, wS_wS, wS_p, wS_pp, Nat.reduceLT, id_eq, L7_1]) ?_
      first
        | have hV : vlvG ((w 46 0) (k).toNatClampNeg) ((w 51 0) (k).toNatClampNeg) ((w 48 0) (k).toNatClampNeg) ((w 52 0) (k).toNatClampNeg) ((w 53 0) (k).toNatClampNeg) ((w 54 0) (k).toNatClampNeg) = ((if (w 46 0) k.toNatClampNeg = 1 then (if 8 < (w 52 0) k.toNatClampNeg then (w 52 0) k.toNatClampNeg - 8 else 0) else (w 52 0) k.toNatClampNeg), (w 53 0) k.toNatClampNeg - v, v2) := by (rw [e2, e1]; simp only [vlvG]; rw [if_pos (show ((w 52 0) k.toNatClampNeg - (w 53 0) k.toNatClampNeg) < -(snG ((w 46 0) k.toNatClampNeg)) by simp only [snG]; grind), if_neg (by assumption)])
        | have hV : vlvG ((w 46 0) (k).toNatClampNeg) ((w 51 0) (k).toNatClampNeg) ((w 48 0) (k).toNatClampNeg) ((w 52 0) (k).toNatClampNeg) ((w 53 0) (k).toNatClampNeg) ((w 54 0) (k).toNatClampNeg) = ((w 52 0) k.toNatClampNeg - v5, (w 53 0) k.toNatClampNeg + v5, (if (w 51 0) k.toNatClampNeg ≠ 1 ∧ 100 * (w 48 0) k.toNatClampNeg < (w 54 0) k.toNatClampNeg then (if 100 * (w 48 0) k.toNatClampNeg < (w 54 0) k.toNatClampNeg - eaG ((w 46 0) k.toNatClampNeg) then (w 54 0) k.toNatClampNeg - eaG ((w 46 0) k.toNatClampNeg) else 100 * (w 48 0) k.toNatClampNeg) else (w 54 0) k.toNatClampNeg)) := by (rw [e5]; simp only [vlvG]; rw [if_neg (show ¬ ((w 52 0) k.toNatClampNeg - (w 53 0) k.toNatClampNeg) < -(snG ((w 46 0) k.toNatClampNeg)) by simp only [snG]; grind), if_pos (show (snG ((w 46 0) k.toNatClampNeg)) < ((w 52 0) k.toNatClampNeg - (w 53 0) k.toNatClampNeg) by simp only [snG]; grind)])
        | have hV : vlvG ((w 46 0) (k).toNatClampNeg) ((w 51 0) (k).toNatClampNeg) ((w 48 0) (k).toNatClampNeg) ((w 52 0) (k).toNatClampNeg) ((w 53 0) (k).toNatClampNeg) ((w 54 0) (k).toNatClampNeg) = ((w 52 0) k.toNatClampNeg, (w 53 0) k.toNatClampNeg, (w 54 0) k.toNatClampNeg) := by (simp only [vlvG]; rw [if_neg (show ¬ ((w 52 0) k.toNatClampNeg - (w 53 0) k.toNatClampNeg) < -(snG ((w 46 0) k.toNatClampNeg)) by simp only [snG]; grind), if_neg (show ¬ (snG ((w 46 0) k.toNatClampNeg)) < ((w 52 0) k.toNatClampNeg - (w 53 0) k.toNatClampNeg) by simp only [snG]; grind)])
      exact v_vret C dX12_valve_268 (congr (congrArg Prod.mk (wS_eq (wS_eq (wS_eq rfl (by clear C; rw [hV]; first | done | exact (upd_id _ _).symm | exact eY | (dsimp only; rw [if_pos (by assumption), ← e3]) | (dsimp only; rw [if_neg (by assumption), upd_id]))) (by clear C; rw [hV]; first | done | exact (upd_id _ _).symm | exact eY | (dsimp only; rw [if_pos (by assumption), ← e3]) | (dsimp only; rw [if_neg (by assumption), upd_id]))) (by clear C; rw [hV]; first | done | exact (upd_id _ _).symm | exact eY | (dsimp only; rw [if_pos (by assumption), ← e3]) | (dsimp only; rw [if_neg (by assumption), upd_id])))) rfl)
    · refine v_bipush (v := 100) C dX12_valve_158 (by decide) ?_
      refine v_aload_n C 2 dX12_valve_160 rfl ?_
      refine v_gR C 12 0 30 48 0 (hM.2 _ (u_12 0 (by decide))) k_12 (by decide) x_1272 (fun _ _ _ => rfl) dX12_valve_161 ?_
      refine v_iload_n C 3 dX12_valve_164 rfl ?_
      refine v_iald C 48 0 (hM.2 _ (u_48 0 (by decide))) ⟨by decide, rfl, rfl⟩ (v_in (N := 17) (by decide) (by clear C; grind) (by clear C; grind)) dX12_valve_165 ?_
      refine v_imul C dX12_valve_166 ?_
      refine v_istore (lv2 := [(4, .int (100 * ((w 48 0) k.toNatClampNeg))), (3, .int ((w 46 0) k.toNatClampNeg)), (2, .int (((w 52 0) k.toNatClampNeg) - ((w 53 0) k.toNatClampNeg))), (0, .ref (E.ad 12 0)), (1, .int k)]) C dX12_valve_167 (by decide) rfl ?_
      have hL228 : ∀ (Y : Row), (Y = upd (w 54 0) k.toNatClampNeg (if (w 51 0) k.toNatClampNeg ≠ 1 ∧ 100 * (w 48 0) k.toNatClampNeg < (w 54 0) k.toNatClampNeg then (if 100 * (w 48 0) k.toNatClampNeg < (w 54 0) k.toNatClampNeg - eaG ((w 46 0) k.toNatClampNeg) then (w 54 0) k.toNatClampNeg - eaG ((w 46 0) k.toNatClampNeg) else 100 * (w 48 0) k.toNatClampNeg) else (w 54 0) k.toNatClampNeg)) → V K E A 6 (QV K E A (P_X12_valve w z k)) 228 [(4, .int (100 * ((w 48 0) k.toNatClampNeg))), (3, .int ((w 46 0) k.toNatClampNeg)), (2, .int (((w 52 0) k.toNatClampNeg) - ((w 53 0) k.toNatClampNeg))), (0, .ref (E.ad 12 0)), (1, .int k)] [] (wS w 54 0 Y) z := by
        intro Y hinv
        have eY := hinv
        have hL244 : ∀ (v5 : Int32), (v5 = (if ((w 52 0) k.toNatClampNeg - (w 53 0) k.toNatClampNeg) / 2 < 10 then ((w 52 0) k.toNatClampNeg - (w 53 0) k.toNatClampNeg) / 2 else 10)) → V K E A 6 (QV K E A (P_X12_valve w z k)) 244 [(4, .int (100 * ((w 48 0) k.toNatClampNeg))), (3, .int ((w 46 0) k.toNatClampNeg)), (2, .int (((w 52 0) k.toNatClampNeg) - ((w 53 0) k.toNatClampNeg))), (0, .ref (E.ad 12 0)), (1, .int k)] [.int v5] (wS w 54 0 Y) z := by
          intro v5 hinv
          have e5 := hinv
          refine v_istore (lv2 := [(5, .int v5), (4, .int (100 * ((w 48 0) k.toNatClampNeg))), (3, .int ((w 46 0) k.toNatClampNeg)), (2, .int (((w 52 0) k.toNatClampNeg) - ((w 53 0) k.toNatClampNeg))), (0, .ref (E.ad 12 0)), (1, .int k)]) C dX12_valve_244 (by decide) rfl ?_
          refine v_aload_n C 4 dX12_valve_246 rfl ?_
          refine v_gR C 12 0 34 52 0 (hM.2 _ (u_12 0 (by decide))) k_12 (by decide) x_1276 (fun _ _ _ => rfl) dX12_valve_247 ?_
          refine v_iload_n C 5 dX12_valve_250 rfl ?_
          refine v_dup2 C dX12_valve_251 rfl rfl ?_
          refine v_iald C 52 0 (hM.2 _ (u_52 0 (by decide))) ⟨by decide, rfl, rfl⟩ (v_in (N := 17) (by decide) (by clear C; grind) (by clear C; grind)) dX12_valve_252 ?_
          refine v_i (y := ((w 52 0) k.toNatClampNeg)) (by simp only [wS_s, wS_t, wS_a, ne_eq, Nat.reduceEqDiff, not_false_eq_true, L7_1]) ?_
          refine v_iload C 0 dX12_valve_253 rfl ?_
          refine v_isub C dX12_valve_255 ?_
          refine v_iast C 52 0 (hM.2 _ (u_52 0 (by decide))) ⟨by decide, rfl, rfl⟩ (v_in (N := 17) (by decide) (by clear C; grind) (by clear C; grind)) dX12_valve_256 ?_
          refine v_aload_n C 4 dX12_valve_257 rfl ?_
          refine v_gR C 12 0 35 53 0 (hM.2 _ (u_12 0 (by decide))) k_12 (by decide) x_1277 (fun _ _ _ => rfl) dX12_valve_258 ?_
          refine v_iload_n C 5 dX12_valve_261 rfl ?_
          refine v_dup2 C dX12_valve_262 rfl rfl ?_
          refine v_iald C 53 0 (hM.2 _ (u_53 0 (by decide))) ⟨by decide, rfl, rfl⟩ (v_in (N := 17) (by decide) (by clear C; grind) (by clear C; grind)) dX12_valve_263 ?_
          refine v_i (y := ((w 53 0) k.toNatClampNeg)) (by simp only [wS_s, wS_t, wS_a, ne_eq, Nat.reduceEqDiff, not_false_eq_true, L7_1]) ?_
          refine v_iload C 0 dX12_valve_264 rfl ?_
          refine v_iadd C dX12_valve_266 ?_
          refine v_iast C 53 0 (hM.2 _ (u_53 0 (by decide))) ⟨by decide, rfl, rfl⟩ (v_in (N := 17) (by decide) (by clear C; grind) (by clear C; grind)) dX12_valve_267 ?_
          refine v_w (w2 := (wS (wS (wS w 52 0 (upd (w 52 0) k.toNatClampNeg (((w 52 0) k.toNatClampNeg) - v5))) 53 0 (upd (w 53 0) k.toNatClampNeg (((w 53 0) k.toNatClampNeg) + v5))) 54 0 Y)) (by simp only [wS_s, wS_t, wS_a, ne_eq, Nat.reduceEqDiff, not_false_eq_true, wS_wS, wS_p, wS_pp, Nat.reduceLT, id_eq, L7_1]) ?_
          first
            | have hV : vlvG ((w 46 0) (k).toNatClampNeg) ((w 51 0) (k).toNatClampNeg) ((w 48 0) (k).toNatClampNeg) ((w 52 0) (k).toNatClampNeg) ((w 53 0) (k).toNatClampNeg) ((w 54 0) (k).toNatClampNeg) = ((if (w 46 0) k.toNatClampNeg = 1 then (if 8 < (w 52 0) k.toNatClampNeg then (w 52 0) k.toNatClampNeg - 8 else 0) else (w 52 0) k.toNatClampNeg), (w 53 0) k.toNatClampNeg - v, v2) := by (rw [e2, e1]; simp only [vlvG]; rw [if_pos (show ((w 52 0) k.toNatClampNeg - (w 53 0) k.toNatClampNeg) < -(snG ((w 46 0) k.toNatClampNeg)) by simp only [snG]; grind), if_neg (by assumption)])
            | have hV : vlvG ((w 46 0) (k).toNatClampNeg) ((w 51 0) (k).toNatClampNeg) ((w 48 0) (k).toNatClampNeg) ((w 52 0) (k).toNatClampNeg) ((w 53 0) (k).toNatClampNeg) ((w 54 0) (k).toNatClampNeg) = ((w 52 0) k.toNatClampNeg - v5, (w 53 0) k.toNatClampNeg + v5, (if (w 51 0) k.toNatClampNeg ≠ 1 ∧ 100 * (w 48 0) k.toNatClampNeg < (w 54 0) k.toNatClampNeg then (if 100 * (w 48 0) k.toNatClampNeg < (w 54 0) k.toNatClampNeg - eaG ((w 46 0) k.toNatClampNeg) then (w 54 0) k.toNatClampNeg - eaG ((w 46 0) k.toNatClampNeg) else 100 * (w 48 0) k.toNatClampNeg) else (w 54 0) k.toNatClampNeg)) := by (rw [e5]; simp only [vlvG]; rw [if_neg (show ¬ ((w 52 0) k.toNatClampNeg - (w 53 0) k.toNatClampNeg) < -(snG ((w 46 0) k.toNatClampNeg)) by simp only [snG]; grind), if_pos (show (snG ((w 46 0) k.toNatClampNeg)) < ((w 52 0) k.toNatClampNeg - (w 53 0) k.toNatClampNeg) by simp only [snG]; grind)])
            | have hV : vlvG ((w 46 0) (k).toNatClampNeg) ((w 51 0) (k).toNatClampNeg) ((w 48 0) (k).toNatClampNeg) ((w 52 0) (k).toNatClampNeg) ((w 53 0) (k).toNatClampNeg) ((w 54 0) (k).toNatClampNeg) = ((w 52 0) k.toNatClampNeg, (w 53 0) k.toNatClampNeg, (w 54 0) k.toNatClampNeg) := by (simp only [vlvG]; rw [if_neg (show ¬ ((w 52 0) k.toNatClampNeg - (w 53 0) k.toNatClampNeg) < -(snG ((w 46 0) k.toNatClampNeg)) by simp only [snG]; grind), if_neg (show ¬ (snG ((w 46 0) k.toNatClampNeg)) < ((w 52 0) k.toNatClampNeg - (w 53 0) k.toNatClampNeg) by simp only [snG]; grind)])
          exact v_vret C dX12_valve_268 (congr (congrArg Prod.mk (wS_eq (wS_eq (wS_eq rfl (by clear C; rw [hV]; first | done | exact (upd_id _ _).symm | exact eY | (dsimp only; rw [if_pos (by assumption), ← e3]) | (dsimp only; rw [if_neg (by assumption), upd_id]))) (by clear C; rw [hV]; first | done | exact (upd_id _ _).symm | exact eY | (dsimp only; rw [if_pos (by assumption), ← e3]) | (dsimp only; rw [if_neg (by assumption), upd_id]))) (by clear C; rw [hV]; first | done | exact (upd_id _ _).symm | exact eY | (dsimp only; rw [if_pos (by assumption), ← e3]) | (dsimp only; rw [if_neg (by assumption), upd_id])))) rfl)
        refine v_iload_n C 2 dX12_valve_228 rfl ?_
        refine v_iconst (v := 2) C dX12_valve_229 (by decide) ?_
        refine v_idiv C dX12_valve_230 (by decide) ?_
        refine v_bipush (v := 10) C dX12_valve_231 (by decide) ?_
        refine v_ic_ge C 242 dX12_valve_233 (by decide) (fun c_233 => ?_) (fun c_233 => ?_)
        · refine v_bipush (v := 10) C dX12_valve_242 (by decide) ?_
          exact hL244 10 (by clear C hL244; grind)
        · refine v_iload_n C 2 dX12_valve_236 rfl ?_
          refine v_iconst (v := 2) C dX12_valve_237 (by decide) ?_
          refine v_idiv C dX12_valve_238 (by decide) ?_
          refine v_goto C 244 dX12_valve_239 (by decide) ?_
          exact hL244 ((((w 52 0) k.toNatClampNeg) - ((w 53 0) k.toNatClampNeg)) / 2) (by clear C hL244; grind)
      refine v_aload_n C 3 dX12_valve_169 rfl ?_
      refine v_gR C 12 0 33 51 0 (hM.2 _ (u_12 0 (by decide))) k_12 (by decide) x_1275 (fun _ _ _ => rfl) dX12_valve_170 ?_
      refine v_iload_n C 4 dX12_valve_173 rfl ?_
      refine v_iald C 51 0 (hM.2 _ (u_51 0 (by decide))) ⟨by decide, rfl, rfl⟩ (v_in (N := 17) (by decide) (by clear C hL228; grind) (by clear C hL228; grind)) dX12_valve_174 ?_
      refine v_iconst (v := 1) C dX12_valve_175 (by decide) ?_
      refine v_ic_eq C 228 dX12_valve_176 (by decide) (fun c_176 => ?_) (fun c_176 => ?_)
      · refine v_w (wS_id _ 54 0).symm ?_
        refine v_w (w2 := (wS w 54 0 (w 54 0))) (by simp only [wS_s, wS_t, wS_a, ne_eq, Nat.reduceEqDiff, not_false_eq_true, wS_wS, wS_p, wS_pp, Nat.reduceLT, id_eq, L7_1]) ?_
        exact hL228 (w 54 0) (by clear C hL228; first | (rw [if_pos (by grind), ← e4]; done) | (rw [if_neg (by grind), upd_id]; done))
      · refine v_aload_n C 3 dX12_valve_179 rfl ?_
        refine v_gR C 12 0 36 54 0 (hM.2 _ (u_12 0 (by decide))) k_12 (by decide) x_1278 (fun _ _ _ => rfl) dX12_valve_180 ?_
        refine v_iload_n C 4 dX12_valve_183 rfl ?_
        refine v_iald C 54 0 (hM.2 _ (u_54 0 (by decide))) ⟨by decide, rfl, rfl⟩ (v_in (N := 17) (by decide) (by clear C hL228; grind) (by clear C hL228; grind)) dX12_valve_184 ?_
        refine v_iload C 0 dX12_valve_185 rfl ?_
        refine v_ic_le C 228 dX12_valve_187 (by decide) (fun c_187 => ?_) (fun c_187 => ?_)
        · refine v_w (wS_id _ 54 0).symm ?_
          refine v_w (w2 := (wS w 54 0 (w 54 0))) (by simp only [wS_s, wS_t, wS_a, ne_eq, Nat.reduceEqDiff, not_false_eq_true, wS_wS, wS_p, wS_pp, Nat.reduceLT, id_eq, L7_1]) ?_
          exact hL228 (w 54 0) (by clear C hL228; first | (rw [if_pos (by grind), ← e4]; done) | (rw [if_neg (by grind), upd_id]; done))
        · have hL227 : ∀ (v4 : Int32), (v4 = (if 100 * (w 48 0) k.toNatClampNeg < (w 54 0) k.toNatClampNeg - eaG ((w 46 0) k.toNatClampNeg) then (w 54 0) k.toNatClampNeg - eaG ((w 46 0) k.toNatClampNeg) else 100 * (w 48 0) k.toNatClampNeg)) → V K E A 6 (QV K E A (P_X12_valve w z k)) 227 [(4, .int (100 * ((w 48 0) k.toNatClampNeg))), (3, .int ((w 46 0) k.toNatClampNeg)), (2, .int (((w 52 0) k.toNatClampNeg) - ((w 53 0) k.toNatClampNeg))), (0, .ref (E.ad 12 0)), (1, .int k)] [.int v4, .int k, .ref (E.ad 54 0)] w z := by
            intro v4 hinv
            have e4 := hinv
            refine v_iast C 54 0 (hM.2 _ (u_54 0 (by decide))) ⟨by decide, rfl, rfl⟩ (v_in (N := 17) (by decide) (by clear C hL228; grind) (by clear C hL228; grind)) dX12_valve_227 ?_
            exact hL228 (upd (w 54 0) k.toNatClampNeg v4) (by clear C hL228; first | (rw [if_pos (by grind), ← e4]; done) | (rw [if_neg (by grind), upd_id]; done))
          refine v_aload_n C 3 dX12_valve_190 rfl ?_
          refine v_gR C 12 0 36 54 0 (hM.2 _ (u_12 0 (by decide))) k_12 (by decide) x_1278 (fun _ _ _ => rfl) dX12_valve_191 ?_
          refine v_iload_n C 4 dX12_valve_194 rfl ?_
          refine v_aload_n C 3 dX12_valve_195 rfl ?_
          refine v_gR C 12 0 36 54 0 (hM.2 _ (u_12 0 (by decide))) k_12 (by decide) x_1278 (fun _ _ _ => rfl) dX12_valve_196 ?_
          refine v_iload_n C 4 dX12_valve_199 rfl ?_
          refine v_iald C 54 0 (hM.2 _ (u_54 0 (by decide))) ⟨by decide, rfl, rfl⟩ (v_in (N := 17) (by decide) (by clear C hL228 hL227; grind) (by clear C hL228 hL227; grind)) dX12_valve_200 ?_
          refine v_iload_n C 1 dX12_valve_201 rfl ?_
          refine v_sI C [.int ((w 46 0) k.toNatClampNeg)] 1 (c_X12_ease E hM _ _  ((w 46 0) k.toNatClampNeg)  ) m_X12_ease x_1611 x_1612 p_X12_ease rfl ⟨Nat.le_of_ble_eq_true rfl, Nat.le_of_ble_eq_true rfl⟩ rfl (Nat.le_of_ble_eq_true rfl) dX12_valve_202 (fun r3 u3 v3 hp3 => ?_)
          obtain ⟨hr3, hu3⟩ := hp3
          subst hr3
          cases hu3
          refine v_isub C dX12_valve_205 ?_
          refine v_iload C 0 dX12_valve_206 rfl ?_
          refine v_ic_le C 225 dX12_valve_208 (by decide) (fun c_208 => ?_) (fun c_208 => ?_)
          · refine v_iload C 0 dX12_valve_225 rfl ?_
            exact hL227 (100 * ((w 48 0) k.toNatClampNeg)) (by clear C hL228 hL227; simp only [eaG]; grind)
          · refine v_aload_n C 3 dX12_valve_211 rfl ?_
            refine v_gR C 12 0 36 54 0 (hM.2 _ (u_12 0 (by decide))) k_12 (by decide) x_1278 (fun _ _ _ => rfl) dX12_valve_212 ?_
            refine v_iload_n C 4 dX12_valve_215 rfl ?_
            refine v_iald C 54 0 (hM.2 _ (u_54 0 (by decide))) ⟨by decide, rfl, rfl⟩ (v_in (N := 17) (by decide) (by clear C hL228 hL227; grind) (by clear C hL228 hL227; grind)) dX12_valve_216 ?_
            refine v_iload_n C 1 dX12_valve_217 rfl ?_
            refine v_sI C [.int ((w 46 0) k.toNatClampNeg)] 1 (c_X12_ease E hM _ _  ((w 46 0) k.toNatClampNeg)  ) m_X12_ease x_1611 x_1612 p_X12_ease rfl ⟨Nat.le_of_ble_eq_true rfl, Nat.le_of_ble_eq_true rfl⟩ rfl (Nat.le_of_ble_eq_true rfl) dX12_valve_218 (fun r4 u4 v4 hp4 => ?_)
            obtain ⟨hr4, hu4⟩ := hp4
            subst hr4
            cases hu4
            refine v_isub C dX12_valve_221 ?_
            refine v_goto C 227 dX12_valve_222 (by decide) ?_
            exact hL227 (((w 54 0) k.toNatClampNeg) - (if ((w 46 0) k.toNatClampNeg) = 0 then 30 else if ((w 46 0) k.toNatClampNeg) = 1 then 40 else 12)) (by clear C hL228 hL227; simp only [eaG]; grind)
  · refine v_aload_n C 2 dX12_valve_30 rfl ?_
    refine v_gR C 12 0 33 51 0 (hM.2 _ (u_12 0 (by decide))) k_12 (by decide) x_1275 (fun _ _ _ => rfl) dX12_valve_31 ?_
    refine v_iload_n C 3 dX12_valve_34 rfl ?_
    refine v_iald C 51 0 (hM.2 _ (u_51 0 (by decide))) ⟨by decide, rfl, rfl⟩ (v_in (N := 17) (by decide) (by clear C; grind) (by clear C; grind)) dX12_valve_35 ?_
    refine v_iconst (v := 2) C dX12_valve_36 (by decide) ?_
    refine v_ic_ne C 41 dX12_valve_37 (by decide) (fun c_37 => ?_) (fun c_37 => ?_)
    · have hL59 : ∀ (v : Int32), (v = (if raG ((w 46 0) k.toNatClampNeg) < -((w 52 0) k.toNatClampNeg - (w 53 0) k.toNatClampNeg) then raG ((w 46 0) k.toNatClampNeg) else -((w 52 0) k.toNatClampNeg - (w 53 0) k.toNatClampNeg))) → V K E A 6 (QV K E A (P_X12_valve w z k)) 59 [(3, .int ((w 46 0) k.toNatClampNeg)), (2, .int (((w 52 0) k.toNatClampNeg) - ((w 53 0) k.toNatClampNeg))), (0, .ref (E.ad 12 0)), (1, .int k)] [.int v] w z := by
        intro v hinv
        have e1 := hinv
        refine v_istore (lv2 := [(4, .int v), (3, .int ((w 46 0) k.toNatClampNeg)), (2, .int (((w 52 0) k.toNatClampNeg) - ((w 53 0) k.toNatClampNeg))), (0, .ref (E.ad 12 0)), (1, .int k)]) C dX12_valve_59 (by decide) rfl ?_
        refine v_aload_n C 3 dX12_valve_61 rfl ?_
        refine v_gR C 12 0 35 53 0 (hM.2 _ (u_12 0 (by decide))) k_12 (by decide) x_1277 (fun _ _ _ => rfl) dX12_valve_62 ?_
        refine v_iload_n C 4 dX12_valve_65 rfl ?_
        refine v_dup2 C dX12_valve_66 rfl rfl ?_
        refine v_iald C 53 0 (hM.2 _ (u_53 0 (by decide))) ⟨by decide, rfl, rfl⟩ (v_in (N := 17) (by decide) (by clear C; grind) (by clear C; grind)) dX12_valve_67 ?_
        refine v_iload C 0 dX12_valve_68 rfl ?_
        refine v_isub C dX12_valve_70 ?_
        refine v_iast C 53 0 (hM.2 _ (u_53 0 (by decide))) ⟨by decide, rfl, rfl⟩ (v_in (N := 17) (by decide) (by clear C; grind) (by clear C; grind)) dX12_valve_71 ?_
        have hL111 : ∀ (v2 : Int32), (v2 = (if (w 54 0) k.toNatClampNeg + 2 * v < 500 then (w 54 0) k.toNatClampNeg + 2 * v else 500)) → V K E A 6 (QV K E A (P_X12_valve w z k)) 111 [(4, .int v), (3, .int ((w 46 0) k.toNatClampNeg)), (2, .int (((w 52 0) k.toNatClampNeg) - ((w 53 0) k.toNatClampNeg))), (0, .ref (E.ad 12 0)), (1, .int k)] [.int v2, .int k, .ref (E.ad 54 0)] (wS w 53 0 (upd (w 53 0) k.toNatClampNeg (((w 53 0) k.toNatClampNeg) - v))) z := by
          intro v2 hinv
          have e2 := hinv
          refine v_iast C 54 0 (hM.2 _ (u_54 0 (by decide))) ⟨by decide, rfl, rfl⟩ (v_in (N := 17) (by decide) (by clear C; grind) (by clear C; grind)) dX12_valve_111 ?_
          refine v_iload_n C 1 dX12_valve_112 rfl ?_
          refine v_iconst (v := 1) C dX12_valve_113 (by decide) ?_
          refine v_ic_ne C 147 dX12_valve_114 (by decide) (fun c_114 => ?_) (fun c_114 => ?_)
          · refine v_goto C 268 dX12_valve_147 (by decide) ?_
            refine v_w (wS_id _ 52 0).symm ?_
            refine v_w (w2 := (wS (wS (wS w 52 0 (w 52 0)) 53 0 (upd (w 53 0) k.toNatClampNeg (((w 53 0) k.toNatClampNeg) - v))) 54 0 (upd (w 54 0) k.toNatClampNeg v2))) (by simp only [wS_s, wS_t, wS_a, ne_eq, Nat.reduceEqDiff, not_false_eq_true, wS_wS, wS_p, wS_pp, Nat.reduceLT, id_eq, L7_1]) ?_
            first
              | have hV : vlvG ((w 46 0) (k).toNatClampNeg) ((w 51 0) (k).toNatClampNeg) ((w 48 0) (k).toNatClampNeg) ((w 52 0) (k).toNatClampNeg) ((w 53 0) (k).toNatClampNeg) ((w 54 0) (k).toNatClampNeg) = ((if (w 46 0) k.toNatClampNeg = 1 then (if 8 < (w 52 0) k.toNatClampNeg then (w 52 0) k.toNatClampNeg - 8 else 0) else (w 52 0) k.toNatClampNeg), (w 53 0) k.toNatClampNeg - v, v2) := by (rw [e2, e1]; simp only [vlvG]; rw [if_pos (show ((w 52 0) k.toNatClampNeg - (w 53 0) k.toNatClampNeg) < -(snG ((w 46 0) k.toNatClampNeg)) by simp only [snG]; grind), if_neg (by assumption)])
              | have hV : vlvG ((w 46 0) (k).toNatClampNeg) ((w 51 0) (k).toNatClampNeg) ((w 48 0) (k).toNatClampNeg) ((w 52 0) (k).toNatClampNeg) ((w 53 0) (k).toNatClampNeg) ((w 54 0) (k).toNatClampNeg) = ((w 52 0) k.toNatClampNeg - v5, (w 53 0) k.toNatClampNeg + v5, (if (w 51 0) k.toNatClampNeg ≠ 1 ∧ 100 * (w 48 0) k.toNatClampNeg < (w 54 0) k.toNatClampNeg then (if 100 * (w 48 0) k.toNatClampNeg < (w 54 0) k.toNatClampNeg - eaG ((w 46 0) k.toNatClampNeg) then (w 54 0) k.toNatClampNeg - eaG ((w 46 0) k.toNatClampNeg) else 100 * (w 48 0) k.toNatClampNeg) else (w 54 0) k.toNatClampNeg)) := by (rw [e5]; simp only [vlvG]; rw [if_neg (show ¬ ((w 52 0) k.toNatClampNeg - (w 53 0) k.toNatClampNeg) < -(snG ((w 46 0) k.toNatClampNeg)) by simp only [snG]; grind), if_pos (show (snG ((w 46 0) k.toNatClampNeg)) < ((w 52 0) k.toNatClampNeg - (w 53 0) k.toNatClampNeg) by simp only [snG]; grind)])
              | have hV : vlvG ((w 46 0) (k).toNatClampNeg) ((w 51 0) (k).toNatClampNeg) ((w 48 0) (k).toNatClampNeg) ((w 52 0) (k).toNatClampNeg) ((w 53 0) (k).toNatClampNeg) ((w 54 0) (k).toNatClampNeg) = ((w 52 0) k.toNatClampNeg, (w 53 0) k.toNatClampNeg, (w 54 0) k.toNatClampNeg) := by (simp only [vlvG]; rw [if_neg (show ¬ ((w 52 0) k.toNatClampNeg - (w 53 0) k.toNatClampNeg) < -(snG ((w 46 0) k.toNatClampNeg)) by simp only [snG]; grind), if_neg (show ¬ (snG ((w 46 0) k.toNatClampNeg)) < ((w 52 0) k.toNatClampNeg - (w 53 0) k.toNatClampNeg) by simp only [snG]; grind)])
            exact v_vret C dX12_valve_268 (congr (congrArg Prod.mk (wS_eq (wS_eq (wS_eq rfl (by clear C; rw [hV]; first | done | exact (upd_id _ _).symm | exact eY | (dsimp only; rw [if_pos (by assumption), ← e3]) | (dsimp only; rw [if_neg (by assumption), upd_id]))) (by clear C; rw [hV]; first | done | exact (upd_id _ _).symm | exact eY | (dsimp only; rw [if_pos (by assumption), ← e3]) | (dsimp only; rw [if_neg (by assumption), upd_id]))) (by clear C; rw [hV]; first | done | exact (upd_id _ _).symm | exact eY | (dsimp only; rw [if_pos (by assumption), ← e3]) | (dsimp only; rw [if_neg (by assumption), upd_id])))) rfl)
          · have hL146 : ∀ (v3 : Int32), (v3 = (if 8 < (w 52 0) k.toNatClampNeg then (w 52 0) k.toNatClampNeg - 8 else 0)) → V K E A 6 (QV K E A (P_X12_valve w z k)) 146 [(4, .int v), (3, .int ((w 46 0) k.toNatClampNeg)), (2, .int (((w 52 0) k.toNatClampNeg) - ((w 53 0) k.toNatClampNeg))), (0, .ref (E.ad 12 0)), (1, .int k)] [.int v3, .int k, .ref (E.ad 52 0)] (wS (wS w 53 0 (upd (w 53 0) k.toNatClampNeg (((w 53 0) k.toNatClampNeg) - v))) 54 0 (upd (w 54 0) k.toNatClampNeg v2)) z := by
              intro v3 hinv
              have e3 := hinv
              refine v_iast C 52 0 (hM.2 _ (u_52 0 (by decide))) ⟨by decide, rfl, rfl⟩ (v_in (N := 17) (by decide) (by clear C; grind) (by clear C; grind)) dX12_valve_146 ?_
              refine v_goto C 268 dX12_valve_147 (by decide) ?_
              refine v_w (w2 := (wS (wS (wS w 52 0 (upd (w 52 0) k.toNatClampNeg v3)) 53 0 (upd (w 53 0) k.toNatClampNeg (((w 53 0) k.toNatClampNeg) - v))) 54 0 (upd (w 54 0) k.toNatClampNeg v2))) (by simp only [wS_s, wS_t, wS_a, ne_eq, Nat.reduceEqDiff, not_false_eq_true, wS_wS, wS_p, wS_pp, Nat.reduceLT, id_eq, L7_1]) ?_
              first
                | have hV : vlvG ((w 46 0) (k).toNatClampNeg) ((w 51 0) (k).toNatClampNeg) ((w 48 0) (k).toNatClampNeg) ((w 52 0) (k).toNatClampNeg) ((w 53 0) (k).toNatClampNeg) ((w 54 0) (k).toNatClampNeg) = ((if (w 46 0) k.toNatClampNeg = 1 then (if 8 < (w 52 0) k.toNatClampNeg then (w 52 0) k.toNatClampNeg - 8 else 0) else (w 52 0) k.toNatClampNeg), (w 53 0) k.toNatClampNeg - v, v2) := by (rw [e2, e1]; simp only [vlvG]; rw [if_pos (show ((w 52 0) k.toNatClampNeg - (w 53 0) k.toNatClampNeg) < -(snG ((w 46 0) k.toNatClampNeg)) by simp only [snG]; grind), if_neg (by assumption)])
                | have hV : vlvG ((w 46 0) (k).toNatClampNeg) ((w 51 0) (k).toNatClampNeg) ((w 48 0) (k).toNatClampNeg) ((w 52 0) (k).toNatClampNeg) ((w 53 0) (k).toNatClampNeg) ((w 54 0) (k).toNatClampNeg) = ((w 52 0) k.toNatClampNeg - v5, (w 53 0) k.toNatClampNeg + v5, (if (w 51 0) k.toNatClampNeg ≠ 1 ∧ 100 * (w 48 0) k.toNatClampNeg < (w 54 0) k.toNatClampNeg then (if 100 * (w 48 0) k.toNatClampNeg < (w 54 0) k.toNatClampNeg - eaG ((w 46 0) k.toNatClampNeg) then (w 54 0) k.toNatClampNeg - eaG ((w 46 0) k.toNatClampNeg) else 100 * (w 48 0) k.toNatClampNeg) else (w 54 0) k.toNatClampNeg)) := by (rw [e5]; simp only [vlvG]; rw [if_neg (show ¬ ((w 52 0) k.toNatClampNeg - (w 53 0) k.toNatClampNeg) < -(snG ((w 46 0) k.toNatClampNeg)) by simp only [snG]; grind), if_pos (show (snG ((w 46 0) k.toNatClampNeg)) < ((w 52 0) k.toNatClampNeg - (w 53 0) k.toNatClampNeg) by simp only [snG]; grind)])
                | have hV : vlvG ((w 46 0) (k).toNatClampNeg) ((w 51 0) (k).toNatClampNeg) ((w 48 0) (k).toNatClampNeg) ((w 52 0) (k).toNatClampNeg) ((w 53 0) (k).toNatClampNeg) ((w 54 0) (k).toNatClampNeg) = ((w 52 0) k.toNatClampNeg, (w 53 0) k.toNatClampNeg, (w 54 0) k.toNatClampNeg) := by (simp only [vlvG]; rw [if_neg (show ¬ ((w 52 0) k.toNatClampNeg - (w 53 0) k.toNatClampNeg) < -(snG ((w 46 0) k.toNatClampNeg)) by simp only [snG]; grind), if_neg (show ¬ (snG ((w 46 0) k.toNatClampNeg)) < ((w 52 0) k.toNatClampNeg - (w 53 0) k.toNatClampNeg) by simp only [snG]; grind)])
              exact v_vret C dX12_valve_268 (congr (congrArg Prod.mk (wS_eq (wS_eq (wS_eq rfl (by clear C; rw [hV]; first | done | exact (upd_id _ _).symm | exact eY | (dsimp only; rw [if_pos (by assumption), ← e3]) | (dsimp only; rw [if_neg (by assumption), upd_id]))) (by clear C; rw [hV]; first | done | exact (upd_id _ _).symm | exact eY | (dsimp only; rw [if_pos (by assumption), ← e3]) | (dsimp only; rw [if_neg (by assumption), upd_id]))) (by clear C; rw [hV]; first | done | exact (upd_id _ _).symm | exact eY | (dsimp only; rw [if_pos (by assumption), ← e3]) | (dsimp only; rw [if_neg (by assumption), upd_id])))) rfl)
            refine v_aload_n C 3 dX12_valve_117 rfl ?_
            refine v_gR C 12 0 34 52 0 (hM.2 _ (u_12 0 (by decide))) k_12 (by decide) x_1276 (fun _ _ _ => rfl) dX12_valve_118 ?_
            refine v_iload_n C 4 dX12_valve_121 rfl ?_
            refine v_aload_n C 3 dX12_valve_122 rfl ?_
            refine v_gR C 12 0 34 52 0 (hM.2 _ (u_12 0 (by decide))) k_12 (by decide) x_1276 (fun _ _ _ => rfl) dX12_valve_123 ?_
            refine v_iload_n C 4 dX12_valve_126 rfl ?_
            refine v_iald C 52 0 (hM.2 _ (u_52 0 (by decide))) ⟨by decide, rfl, rfl⟩ (v_in (N := 17) (by decide) (by clear C hL146; grind) (by clear C hL146; grind)) dX12_valve_127 ?_
            refine v_i (y := ((w 52 0) k.toNatClampNeg)) (by simp only [wS_s, wS_t, wS_a, ne_eq, Nat.reduceEqDiff, not_false_eq_true, L7_1]) ?_
            refine v_bipush (v := 8) C dX12_valve_128 (by decide) ?_
            refine v_ic_le C 145 dX12_valve_130 (by decide) (fun c_130 => ?_) (fun c_130 => ?_)
            · refine v_iconst (v := 0) C dX12_valve_145 (by decide) ?_
              refine v_w (w2 := (wS (wS w 53 0 (upd (w 53 0) k.toNatClampNeg (((w 53 0) k.toNatClampNeg) - v))) 54 0 (upd (w 54 0) k.toNatClampNeg v2))) (by simp only [wS_s, wS_t, wS_a, ne_eq, Nat.reduceEqDiff, not_false_eq_true, wS_wS, wS_p, wS_pp, Nat.reduceLT, id_eq, L7_1]) ?_
              exact hL146 0 (by clear C hL146; grind)
            · refine v_aload_n C 3 dX12_valve_133 rfl ?_
              refine v_gR C 12 0 34 52 0 (hM.2 _ (u_12 0 (by decide))) k_12 (by decide) x_1276 (fun _ _ _ => rfl) dX12_valve_134 ?_
              refine v_iload_n C 4 dX12_valve_137 rfl ?_
              refine v_iald C 52 0 (hM.2 _ (u_52 0 (by decide))) ⟨by decide, rfl, rfl⟩ (v_in (N := 17) (by decide) (by clear C hL146; grind) (by clear C hL146; grind)) dX12_valve_138 ?_
              refine v_i (y := ((w 52 0) k.toNatClampNeg)) (by simp only [wS_s, wS_t, wS_a, ne_eq, Nat.reduceEqDiff, not_false_eq_true, L7_1]) ?_
              refine v_bipush (v := 8) C dX12_valve_139 (by decide) ?_
              refine v_isub C dX12_valve_141 ?_
              refine v_goto C 146 dX12_valve_142 (by decide) ?_
              refine v_w (w2 := (wS (wS w 53 0 (upd (w 53 0) k.toNatClampNeg (((w 53 0) k.toNatClampNeg) - v))) 54 0 (upd (w 54 0) k.toNatClampNeg v2))) (by simp only [wS_s, wS_t, wS_a, ne_eq, Nat.reduceEqDiff, not_false_eq_true, wS_wS, wS_p, wS_pp, Nat.reduceLT, id_eq, L7_1]) ?_
              exact hL146 (((w 52 0) k.toNatClampNeg) - 8) (by clear C hL146; grind)
        refine v_aload_n C 3 dX12_valve_72 rfl ?_
        refine v_gR C 12 0 36 54 0 (hM.2 _ (u_12 0 (by decide))) k_12 (by decide) x_1278 (fun _ _ _ => rfl) dX12_valve_73 ?_
        refine v_iload_n C 4 dX12_valve_76 rfl ?_
        refine v_aload_n C 3 dX12_valve_77 rfl ?_
        refine v_gR C 12 0 36 54 0 (hM.2 _ (u_12 0 (by decide))) k_12 (by decide) x_1278 (fun _ _ _ => rfl) dX12_valve_78 ?_
        refine v_iload_n C 4 dX12_valve_81 rfl ?_
        refine v_iald C 54 0 (hM.2 _ (u_54 0 (by decide))) ⟨by decide, rfl, rfl⟩ (v_in (N := 17) (by decide) (by clear C hL111; grind) (by clear C hL111; grind)) dX12_valve_82 ?_
        refine v_i (y := ((w 54 0) k.toNatClampNeg)) (by simp only [wS_s, wS_t, wS_a, ne_eq, Nat.reduceEqDiff, not_false_eq_true, L7_1]) ?_
        refine v_iconst (v := 2) C dX12_valve_83 (by decide) ?_
        refine v_iload C 0 dX12_valve_84 rfl ?_
        refine v_imul C dX12_valve_86 ?_
        refine v_iadd C dX12_valve_87 ?_
        refine v_sipush (v := 500) C dX12_valve_88 (by decide) ?_
        refine v_ic_ge C 108 dX12_valve_91 (by decide) (fun c_91 => ?_) (fun c_91 => ?_)
        · refine v_sipush (v := 500) C dX12_valve_108 (by decide) ?_
          exact hL111 500 (by clear C hL111; grind)
        · refine v_aload_n C 3 dX12_valve_94 rfl ?_
          refine v_gR C 12 0 36 54 0 (hM.2 _ (u_12 0 (by decide))) k_12 (by decide) x_1278 (fun _ _ _ => rfl) dX12_valve_95 ?_
          refine v_iload_n C 4 dX12_valve_98 rfl ?_
          refine v_iald C 54 0 (hM.2 _ (u_54 0 (by decide))) ⟨by decide, rfl, rfl⟩ (v_in (N := 17) (by decide) (by clear C hL111; grind) (by clear C hL111; grind)) dX12_valve_99 ?_
          refine v_i (y := ((w 54 0) k.toNatClampNeg)) (by simp only [wS_s, wS_t, wS_a, ne_eq, Nat.reduceEqDiff, not_false_eq_true, L7_1]) ?_
          refine v_iconst (v := 2) C dX12_valve_100 (by decide) ?_
          refine v_iload C 0 dX12_valve_101 rfl ?_
          refine v_imul C dX12_valve_103 ?_
          refine v_iadd C dX12_valve_104 ?_
          refine v_goto C 111 dX12_valve_105 (by decide) ?_
          exact hL111 (((w 54 0) k.toNatClampNeg) + (2 * v)) (by clear C hL111; grind)
      refine v_iload_n C 0 dX12_valve_41 rfl ?_
      refine v_sI C [.int ((w 46 0) k.toNatClampNeg)] 1 (c_X12_rate E hM _ _  ((w 46 0) k.toNatClampNeg)  ) m_X12_rate x_1608 x_1609 p_X12_rate rfl ⟨Nat.le_of_ble_eq_true rfl, Nat.le_of_ble_eq_true rfl⟩ rfl (Nat.le_of_ble_eq_true rfl) dX12_valve_42 (fun r5 u5 v5 hp5 => ?_)
      obtain ⟨hr5, hu5⟩ := hp5
      subst hr5
      cases hu5
      refine v_iload_n C 1 dX12_valve_45 rfl ?_
      refine v_ineg C dX12_valve_46 ?_
      refine v_ic_ge C 57 dX12_valve_47 (by decide) (fun c_47 => ?_) (fun c_47 => ?_)
      · refine v_iload_n C 1 dX12_valve_57 rfl ?_
        refine v_ineg C dX12_valve_58 ?_
        exact hL59 (-(((w 52 0) k.toNatClampNeg) - ((w 53 0) k.toNatClampNeg))) (by clear C hL59; simp only [raG]; grind)
      · refine v_iload_n C 0 dX12_valve_50 rfl ?_
        refine v_sI C [.int ((w 46 0) k.toNatClampNeg)] 1 (c_X12_rate E hM _ _  ((w 46 0) k.toNatClampNeg)  ) m_X12_rate x_1608 x_1609 p_X12_rate rfl ⟨Nat.le_of_ble_eq_true rfl, Nat.le_of_ble_eq_true rfl⟩ rfl (Nat.le_of_ble_eq_true rfl) dX12_valve_51 (fun r6 u6 v6 hp6 => ?_)
        obtain ⟨hr6, hu6⟩ := hp6
        subst hr6
        cases hu6
        refine v_goto C 59 dX12_valve_54 (by decide) ?_
        exact hL59 (if ((w 46 0) k.toNatClampNeg) = 0 then 20 else if ((w 46 0) k.toNatClampNeg) = 1 then 30 else 12) (by clear C hL59; simp only [raG]; grind)
    · refine v_w (wS_id _ 52 0).symm ?_
      refine v_w (wS_id _ 53 0).symm ?_
      refine v_w (wS_id _ 54 0).symm ?_
      refine v_w (w2 := (wS (wS (wS w 52 0 (w 52 0)) 53 0 (w 53 0)) 54 0 (w 54 0))) (by simp only [wS_s, wS_t, wS_a, ne_eq, Nat.reduceEqDiff, not_false_eq_true, wS_wS, wS_p, wS_pp, Nat.reduceLT, id_eq, L7_1]) ?_
      have hV : vlvG ((w 46 0) (k).toNatClampNeg) ((w 51 0) (k).toNatClampNeg) ((w 48 0) (k).toNatClampNeg) ((w 52 0) (k).toNatClampNeg) ((w 53 0) (k).toNatClampNeg) ((w 54 0) (k).toNatClampNeg) = ((w 52 0) k.toNatClampNeg, (w 53 0) k.toNatClampNeg, (w 54 0) k.toNatClampNeg) := by simp only [vlvG]; rw [if_pos (show ((w 52 0) k.toNatClampNeg - (w 53 0) k.toNatClampNeg) < -(snG ((w 46 0) k.toNatClampNeg)) by simp only [snG]; grind), if_pos (by assumption)]
      exact v_vret C dX12_valve_40 (congr (congrArg Prod.mk (wS_eq (wS_eq (wS_eq rfl (by clear C; rw [hV]; first | done | exact (upd_id _ _).symm | exact eY | (dsimp only; rw [if_pos (by assumption), ← e3]) | (dsimp only; rw [if_neg (by assumption), upd_id]))) (by clear C; rw [hV]; first | done | exact (upd_id _ _).symm | exact eY | (dsimp only; rw [if_pos (by assumption), ← e3]) | (dsimp only; rw [if_neg (by assumption), upd_id]))) (by clear C; rw [hV]; first | done | exact (upd_id _ _).symm | exact eY | (dsimp only; rw [if_pos (by assumption), ← e3]) | (dsimp only; rw [if_neg (by assumption), upd_id])))) rfl)
