abbrev P_X0_moveValve (w : Wi) (z : Wj) (a : Nat) (r : Nat) (c : Int32) : Int32 → WW → Prop := fun r_ u_ => r_ = ((vlv ((w 30 r) (c).toNatClampNeg) ((w 36 r) (c).toNatClampNeg) ((w 33 r) (c).toNatClampNeg) ((w 13 a) (c).toNatClampNeg) ((w 15 a) (c).toNatClampNeg) ((w 16 a) (c).toNatClampNeg)).1) ∧ u_ = ((wS (wS (wS w 13 a (upd (w 13 a) (c).toNatClampNeg (vlv ((w 30 r) (c).toNatClampNeg) ((w 36 r) (c).toNatClampNeg) ((w 33 r) (c).toNatClampNeg) ((w 13 a) (c).toNatClampNeg) ((w 15 a) (c).toNatClampNeg) ((w 16 a) (c).toNatClampNeg)).2.1)) 15 a (upd (w 15 a) (c).toNatClampNeg (vlv ((w 30 r) (c).toNatClampNeg) ((w 36 r) (c).toNatClampNeg) ((w 33 r) (c).toNatClampNeg) ((w 13 a) (c).toNatClampNeg) ((w 15 a) (c).toNatClampNeg) ((w 16 a) (c).toNatClampNeg)).2.2.1)) 16 a (upd (w 16 a) (c).toNatClampNeg (vlv ((w 30 r) (c).toNatClampNeg) ((w 36 r) (c).toNatClampNeg) ((w 33 r) (c).toNatClampNeg) ((w 13 a) (c).toNatClampNeg) ((w 15 a) (c).toNatClampNeg) ((w 16 a) (c).toNatClampNeg)).2.2.2)), z)
set_option maxHeartbeats 4000000 in
set_option maxRecDepth 100000 in
theorem c_X0_moveValve (E : En) (hE : q_ok E) (w : Wi) (z : Wj) (a : Nat) (hi_a : a < 4) (r : Nat) (hi_r : r < 4) (c : Int32) (h1 : 1 ≤ c) (h2 : c ≤ 16) : CtI M_X0_moveValve E [.ref (E.ad 0 a), .ref (E.ad 5 r), .int c] w z (P_X0_moveValve w z a r c) := by
  refine ctI_of (lv := [(0, .ref (E.ad 0 a)), (1, .ref (E.ad 5 r)), (2, .int c)]) hE m_X0_moveValve (Nat.le_of_ble_eq_true rfl) rfl ?_
  intro K A C0
  have C : Cx K E A cX0_moveValve 8 RX0 (some .boolean) { frames := 1, cells := 0, slots := 0, locals := 21 } := C0
  clear C0
  refine v_iload_n C 2 dX0_moveValve_0 rfl ?_
  refine v_iconst (v := 1) C dX0_moveValve_1 (by decide) ?_
  refine v_ic_lt C 11 dX0_moveValve_2 (by decide) (fun c_2 => absurd c_2 (by clear C; grind)) (fun c_2 => ?_)
  refine v_iload_n C 2 dX0_moveValve_5 rfl ?_
  refine v_bipush (v := 17) C dX0_moveValve_6 (by decide) ?_
  refine v_ic_lt C 13 dX0_moveValve_8 (by decide) (fun c_8 => ?_) (fun c_8 => absurd c_8 (by clear C; grind))
  refine v_aload_n C 1 dX0_moveValve_13 rfl ?_
  refine v_gR C 5 r 3 30 r (C_m C (u_5 r hi_r)) k_5 (by decide) x_182 (fun _ _ _ => rfl) dX0_moveValve_14 ?_
  refine v_iload_n C 2 dX0_moveValve_17 rfl ?_
  refine v_iald C 30 r (C_m C (u_30 r hi_r)) ⟨by decide, rfl, rfl⟩ (v_in (N := 17) (by decide) (by clear C; grind) (by clear C; grind)) dX0_moveValve_18 ?_
  refine v_istore_n (lv2 := [(3, .int ((w 30 r) c.toNatClampNeg)), (0, .ref (E.ad 0 a)), (1, .ref (E.ad 5 r)), (2, .int c)]) C dX0_moveValve_19 rfl (by decide) rfl ?_
  have hL42 : ∀ (sn : Int32), (sn = sens ((w 30 r) c.toNatClampNeg)) → V K E A 8 (QI K E A (P_X0_moveValve w z a r c)) 42 [(3, .int ((w 30 r) c.toNatClampNeg)), (0, .ref (E.ad 0 a)), (1, .ref (E.ad 5 r)), (2, .int c)] [.int sn] w z := by
    intro sn hinv
    have e1 := hinv
    refine v_istore (lv2 := [(4, .int sn), (3, .int ((w 30 r) c.toNatClampNeg)), (0, .ref (E.ad 0 a)), (1, .ref (E.ad 5 r)), (2, .int c)]) C dX0_moveValve_42 (by decide) rfl ?_
    refine v_aload_n C 2 dX0_moveValve_44 rfl ?_
    refine v_gR C 0 a 0 13 a (C_m C (u_0 a hi_a)) k_0 (by decide) x_281 (fun _ _ _ => rfl) dX0_moveValve_45 ?_
    refine v_iload_n C 4 dX0_moveValve_48 rfl ?_
    refine v_iald C 13 a (C_m C (u_13 a hi_a)) ⟨by decide, rfl, rfl⟩ (v_in (N := 17) (by decide) (by clear C; grind) (by clear C; grind)) dX0_moveValve_49 ?_
    refine v_aload_n C 2 dX0_moveValve_50 rfl ?_
    refine v_gR C 0 a 2 15 a (C_m C (u_0 a hi_a)) k_0 (by decide) x_283 (fun _ _ _ => rfl) dX0_moveValve_51 ?_
    refine v_iload_n C 4 dX0_moveValve_54 rfl ?_
    refine v_iald C 15 a (C_m C (u_15 a hi_a)) ⟨by decide, rfl, rfl⟩ (v_in (N := 17) (by decide) (by clear C; grind) (by clear C; grind)) dX0_moveValve_55 ?_
    refine v_isub C dX0_moveValve_56 ?_
    refine v_istore (lv2 := [(5, .int (((w 13 a) c.toNatClampNeg) - ((w 15 a) c.toNatClampNeg))), (4, .int sn), (3, .int ((w 30 r) c.toNatClampNeg)), (0, .ref (E.ad 0 a)), (1, .ref (E.ad 5 r)), (2, .int c)]) C dX0_moveValve_57 (by decide) rfl ?_
    have hL171 : (¬ (((w 13 a) c.toNatClampNeg - (w 15 a) c.toNatClampNeg) < -sn ∧ (w 36 r) c.toNatClampNeg ≠ 2)) → V K E A 8 (QI K E A (P_X0_moveValve w z a r c)) 171 [(5, .int (((w 13 a) c.toNatClampNeg) - ((w 15 a) c.toNatClampNeg))), (4, .int sn), (3, .int ((w 30 r) c.toNatClampNeg)), (0, .ref (E.ad 0 a)), (1, .ref (E.ad 5 r)), (2, .int c)] [] w z := by
      intro  hinv
      have e5 := hinv
      refine v_iload C 0 dX0_moveValve_171 rfl ?_
      refine v_iload C 1 dX0_moveValve_173 rfl ?_
      refine v_ic_le C 289 dX0_moveValve_175 (by decide) (fun c_175 => ?_) (fun c_175 => ?_)
      · refine v_iconst (v := 0) C dX0_moveValve_289 (by decide) ?_
        refine v_w (wS_id _ 13 a).symm ?_
        refine v_w (wS_id _ 15 a).symm ?_
        refine v_w (wS_id _ 16 a).symm ?_
        refine v_w (w2 := (wS (wS (wS w 13 a (w 13 a)) 15 a (w 15 a)) 16 a (w 16 a))) (by simp only [wS_s, wS_t, wS_a, ne_eq, Nat.reduceEqDiff, not_false_eq_true, wS_wS, wS_p, wS_pp, Nat.reduceLT, id_eq]) ?_
        exact v_zret C dX0_moveValve_290 (by decide) ⟨(by clear C; rw [vlv_hold e1 e5 (by grind)]; first | done | exact (upd_id _ _).symm), (congr (congrArg Prod.mk (wS_eq (wS_eq (wS_eq rfl (by clear C; rw [vlv_hold e1 e5 (by grind)]; first | done | exact (upd_id _ _).symm)) (by clear C; rw [vlv_hold e1 e5 (by grind)]; first | done | exact (upd_id _ _).symm)) (by clear C; rw [vlv_hold e1 e5 (by grind)]; first | done | exact (upd_id _ _).symm))) rfl)⟩
      · refine v_bipush (v := 100) C dX0_moveValve_178 (by decide) ?_
        refine v_aload_n C 4 dX0_moveValve_180 rfl ?_
        refine v_gR C 5 r 6 33 r (C_m C (u_5 r hi_r)) k_5 (by decide) x_189 (fun _ _ _ => rfl) dX0_moveValve_181 ?_
        refine v_iload_n C 5 dX0_moveValve_184 rfl ?_
        refine v_iald C 33 r (C_m C (u_33 r hi_r)) ⟨by decide, rfl, rfl⟩ (v_in (N := 17) (by decide) (by clear C; grind) (by clear C; grind)) dX0_moveValve_185 ?_
        refine v_imul C dX0_moveValve_186 ?_
        refine v_istore (lv2 := [(6, .int (100 * ((w 33 r) c.toNatClampNeg))), (5, .int (((w 13 a) c.toNatClampNeg) - ((w 15 a) c.toNatClampNeg))), (4, .int sn), (3, .int ((w 30 r) c.toNatClampNeg)), (0, .ref (E.ad 0 a)), (1, .ref (E.ad 5 r)), (2, .int c)]) C dX0_moveValve_187 (by decide) rfl ?_
        have hL254 : ∀ (Y : Row), (Y = upd (w 16 a) c.toNatClampNeg (vlv ((w 30 r) (c).toNatClampNeg) ((w 36 r) (c).toNatClampNeg) ((w 33 r) (c).toNatClampNeg) ((w 13 a) (c).toNatClampNeg) ((w 15 a) (c).toNatClampNeg) ((w 16 a) (c).toNatClampNeg)).2.2.2) → V K E A 8 (QI K E A (P_X0_moveValve w z a r c)) 254 [(6, .int (100 * ((w 33 r) c.toNatClampNeg))), (5, .int (((w 13 a) c.toNatClampNeg) - ((w 15 a) c.toNatClampNeg))), (4, .int sn), (3, .int ((w 30 r) c.toNatClampNeg)), (0, .ref (E.ad 0 a)), (1, .ref (E.ad 5 r)), (2, .int c)] [] (wS w 16 a Y) z := by
          intro Y hinv
          have e4 := hinv
          refine v_bipush (v := 10) C dX0_moveValve_254 (by decide) ?_
          refine v_iload C 1 dX0_moveValve_256 rfl ?_
          refine v_iconst (v := 2) C dX0_moveValve_258 (by decide) ?_
          refine v_idiv C dX0_moveValve_259 (by decide) ?_
          refine v_mmin C x_812 x_577 x_85 x_578 ⟨by decide, Nat.le_of_ble_eq_true rfl⟩ dX0_moveValve_260 ?_
          refine v_istore (lv2 := [(7, .int (if ((((w 13 a) c.toNatClampNeg) - ((w 15 a) c.toNatClampNeg)) / 2) < 10 then ((((w 13 a) c.toNatClampNeg) - ((w 15 a) c.toNatClampNeg)) / 2) else 10)), (6, .int (100 * ((w 33 r) c.toNatClampNeg))), (5, .int (((w 13 a) c.toNatClampNeg) - ((w 15 a) c.toNatClampNeg))), (4, .int sn), (3, .int ((w 30 r) c.toNatClampNeg)), (0, .ref (E.ad 0 a)), (1, .ref (E.ad 5 r)), (2, .int c)]) C dX0_moveValve_263 (by decide) rfl ?_
          refine v_aload_n C 5 dX0_moveValve_265 rfl ?_
          refine v_gR C 0 a 0 13 a (C_m C (u_0 a hi_a)) k_0 (by decide) x_281 (fun _ _ _ => rfl) dX0_moveValve_266 ?_
          refine v_iload_n C 7 dX0_moveValve_269 rfl ?_
          refine v_dup2 C dX0_moveValve_270 rfl rfl ?_
          refine v_iald C 13 a (C_m C (u_13 a hi_a)) ⟨by decide, rfl, rfl⟩ (v_in (N := 17) (by decide) (by clear C; grind) (by clear C; grind)) dX0_moveValve_271 ?_
          refine v_i (y := ((w 13 a) c.toNatClampNeg)) (by simp only [wS_s, wS_t, wS_a, ne_eq, Nat.reduceEqDiff, not_false_eq_true]) ?_
          refine v_iload C 0 dX0_moveValve_272 rfl ?_
          refine v_isub C dX0_moveValve_274 ?_
          refine v_iast C 13 a (C_m C (u_13 a hi_a)) ⟨by decide, rfl, rfl⟩ (v_in (N := 17) (by decide) (by clear C; grind) (by clear C; grind)) dX0_moveValve_275 ?_
          refine v_aload_n C 5 dX0_moveValve_276 rfl ?_
          refine v_gR C 0 a 2 15 a (C_m C (u_0 a hi_a)) k_0 (by decide) x_283 (fun _ _ _ => rfl) dX0_moveValve_277 ?_
          refine v_iload_n C 7 dX0_moveValve_280 rfl ?_
          refine v_dup2 C dX0_moveValve_281 rfl rfl ?_
          refine v_iald C 15 a (C_m C (u_15 a hi_a)) ⟨by decide, rfl, rfl⟩ (v_in (N := 17) (by decide) (by clear C; grind) (by clear C; grind)) dX0_moveValve_282 ?_
          refine v_i (y := ((w 15 a) c.toNatClampNeg)) (by simp only [wS_s, wS_t, wS_a, ne_eq, Nat.reduceEqDiff, not_false_eq_true]) ?_
          refine v_iload C 0 dX0_moveValve_283 rfl ?_
          refine v_iadd C dX0_moveValve_285 ?_
          refine v_iast C 15 a (C_m C (u_15 a hi_a)) ⟨by decide, rfl, rfl⟩ (v_in (N := 17) (by decide) (by clear C; grind) (by clear C; grind)) dX0_moveValve_286 ?_
          refine v_iconst (v := 1) C dX0_moveValve_287 (by decide) ?_
          refine v_w (w2 := (wS (wS (wS w 13 a (upd (w 13 a) c.toNatClampNeg (((w 13 a) c.toNatClampNeg) - (if ((((w 13 a) c.toNatClampNeg) - ((w 15 a) c.toNatClampNeg)) / 2) < 10 then ((((w 13 a) c.toNatClampNeg) - ((w 15 a) c.toNatClampNeg)) / 2) else 10)))) 15 a (upd (w 15 a) c.toNatClampNeg (((w 15 a) c.toNatClampNeg) + (if ((((w 13 a) c.toNatClampNeg) - ((w 15 a) c.toNatClampNeg)) / 2) < 10 then ((((w 13 a) c.toNatClampNeg) - ((w 15 a) c.toNatClampNeg)) / 2) else 10)))) 16 a Y)) (by simp only [wS_s, wS_t, wS_a, ne_eq, Nat.reduceEqDiff, not_false_eq_true, wS_wS, wS_p, wS_pp, Nat.reduceLT, id_eq]) ?_
          exact v_zret C dX0_moveValve_288 (by decide) ⟨(by clear C; first | exact e4 | (rw [vlv_go e1 e5 (by grind)])), (congr (congrArg Prod.mk (wS_eq (wS_eq (wS_eq rfl (by clear C; first | exact e4 | (rw [vlv_go e1 e5 (by grind)]))) (by clear C; first | exact e4 | (rw [vlv_go e1 e5 (by grind)]))) (by clear C; first | exact e4 | (rw [vlv_go e1 e5 (by grind)])))) rfl)⟩
        refine v_aload_n C 5 dX0_moveValve_189 rfl ?_
        refine v_gR C 5 r 9 36 r (C_m C (u_5 r hi_r)) k_5 (by decide) x_195 (fun _ _ _ => rfl) dX0_moveValve_190 ?_
        refine v_iload_n C 6 dX0_moveValve_193 rfl ?_
        refine v_iald C 36 r (C_m C (u_36 r hi_r)) ⟨by decide, rfl, rfl⟩ (v_in (N := 17) (by decide) (by clear C hL254; grind) (by clear C hL254; grind)) dX0_moveValve_194 ?_
        refine v_iconst (v := 1) C dX0_moveValve_195 (by decide) ?_
        refine v_ic_eq C 254 dX0_moveValve_196 (by decide) (fun c_196 => ?_) (fun c_196 => ?_)
        · refine v_w (wS_id _ 16 a).symm ?_
          refine v_w (w2 := (wS w 16 a (w 16 a))) (by simp only [wS_s, wS_t, wS_a, ne_eq, Nat.reduceEqDiff, not_false_eq_true, wS_wS, wS_p, wS_pp, Nat.reduceLT, id_eq]) ?_
          exact hL254 (w 16 a) (by clear C hL254; rw [vlv_go e1 e5 (by grind)]; dsimp only; grind [upd_id])
        · refine v_aload_n C 4 dX0_moveValve_199 rfl ?_
          refine v_gR C 0 a 3 16 a (C_m C (u_0 a hi_a)) k_0 (by decide) x_284 (fun _ _ _ => rfl) dX0_moveValve_200 ?_
          refine v_iload_n C 6 dX0_moveValve_203 rfl ?_
          refine v_iald C 16 a (C_m C (u_16 a hi_a)) ⟨by decide, rfl, rfl⟩ (v_in (N := 17) (by decide) (by clear C hL254; grind) (by clear C hL254; grind)) dX0_moveValve_204 ?_
          refine v_iload C 0 dX0_moveValve_205 rfl ?_
          refine v_ic_le C 254 dX0_moveValve_207 (by decide) (fun c_207 => ?_) (fun c_207 => ?_)
          · refine v_w (wS_id _ 16 a).symm ?_
            refine v_w (w2 := (wS w 16 a (w 16 a))) (by simp only [wS_s, wS_t, wS_a, ne_eq, Nat.reduceEqDiff, not_false_eq_true, wS_wS, wS_p, wS_pp, Nat.reduceLT, id_eq]) ?_
            exact hL254 (w 16 a) (by clear C hL254; rw [vlv_go e1 e5 (by grind)]; dsimp only; grind [upd_id])
          · have hL232 : ∀ (ea : Int32), (ea = easF ((w 30 r) c.toNatClampNeg)) → V K E A 8 (QI K E A (P_X0_moveValve w z a r c)) 232 [(6, .int (100 * ((w 33 r) c.toNatClampNeg))), (5, .int (((w 13 a) c.toNatClampNeg) - ((w 15 a) c.toNatClampNeg))), (4, .int sn), (3, .int ((w 30 r) c.toNatClampNeg)), (0, .ref (E.ad 0 a)), (1, .ref (E.ad 5 r)), (2, .int c)] [.int ea] w z := by
              intro ea hinv
              have e3 := hinv
              refine v_istore (lv2 := [(7, .int ea), (6, .int (100 * ((w 33 r) c.toNatClampNeg))), (5, .int (((w 13 a) c.toNatClampNeg) - ((w 15 a) c.toNatClampNeg))), (4, .int sn), (3, .int ((w 30 r) c.toNatClampNeg)), (0, .ref (E.ad 0 a)), (1, .ref (E.ad 5 r)), (2, .int c)]) C dX0_moveValve_232 (by decide) rfl ?_
              refine v_aload_n C 5 dX0_moveValve_234 rfl ?_
              refine v_gR C 0 a 3 16 a (C_m C (u_0 a hi_a)) k_0 (by decide) x_284 (fun _ _ _ => rfl) dX0_moveValve_235 ?_
              refine v_iload_n C 7 dX0_moveValve_238 rfl ?_
              refine v_iload C 1 dX0_moveValve_239 rfl ?_
              refine v_aload_n C 5 dX0_moveValve_241 rfl ?_
              refine v_gR C 0 a 3 16 a (C_m C (u_0 a hi_a)) k_0 (by decide) x_284 (fun _ _ _ => rfl) dX0_moveValve_242 ?_
              refine v_iload_n C 7 dX0_moveValve_245 rfl ?_
              refine v_iald C 16 a (C_m C (u_16 a hi_a)) ⟨by decide, rfl, rfl⟩ (v_in (N := 17) (by decide) (by clear C hL254; grind) (by clear C hL254; grind)) dX0_moveValve_246 ?_
              refine v_iload C 0 dX0_moveValve_247 rfl ?_
              refine v_isub C dX0_moveValve_249 ?_
              refine v_mmax C x_813 x_592 x_85 x_593 ⟨by decide, Nat.le_of_ble_eq_true rfl⟩ dX0_moveValve_250 ?_
              refine v_iast C 16 a (C_m C (u_16 a hi_a)) ⟨by decide, rfl, rfl⟩ (v_in (N := 17) (by decide) (by clear C hL254; grind) (by clear C hL254; grind)) dX0_moveValve_253 ?_
              refine v_l [1, 2, 3, 4, 5, 6, 7] rfl ?_
              exact hL254 (upd (w 16 a) c.toNatClampNeg (if (100 * ((w 33 r) c.toNatClampNeg)) < (((w 16 a) c.toNatClampNeg) - ea) then (((w 16 a) c.toNatClampNeg) - ea) else (100 * ((w 33 r) c.toNatClampNeg)))) (by clear C hL254; rw [vlv_go e1 e5 (by grind)]; dsimp only; grind [upd_id])
            refine v_iload_n C 3 dX0_moveValve_210 rfl ?_
            refine v_iconst (v := 1) C dX0_moveValve_211 (by decide) ?_
            refine v_ic_ne C 220 dX0_moveValve_212 (by decide) (fun c_212 => ?_) (fun c_212 => ?_)
            · refine v_iload_n C 3 dX0_moveValve_220 rfl ?_
              refine v_iconst (v := 2) C dX0_moveValve_221 (by decide) ?_
              refine v_ic_ne C 230 dX0_moveValve_222 (by decide) (fun c_222 => ?_) (fun c_222 => ?_)
              · refine v_bipush (v := 30) C dX0_moveValve_230 (by decide) ?_
                exact hL232 30 (by clear C hL254 hL232; simp only [easF]; grind)
              · refine v_bipush (v := 12) C dX0_moveValve_225 (by decide) ?_
                refine v_goto C 232 dX0_moveValve_227 (by decide) ?_
                exact hL232 12 (by clear C hL254 hL232; simp only [easF]; grind)
            · refine v_bipush (v := 40) C dX0_moveValve_215 (by decide) ?_
              refine v_goto C 232 dX0_moveValve_217 (by decide) ?_
              exact hL232 40 (by clear C hL254 hL232; simp only [easF]; grind)
    refine v_iload C 0 dX0_moveValve_59 rfl ?_
    refine v_iload C 1 dX0_moveValve_61 rfl ?_
    refine v_ineg C dX0_moveValve_63 ?_
    refine v_ic_ge C 171 dX0_moveValve_64 (by decide) (fun c_64 => ?_) (fun c_64 => ?_)
    · exact hL171  (by clear C hL171; grind)
    · refine v_aload_n C 4 dX0_moveValve_67 rfl ?_
      refine v_gR C 5 r 9 36 r (C_m C (u_5 r hi_r)) k_5 (by decide) x_195 (fun _ _ _ => rfl) dX0_moveValve_68 ?_
      refine v_iload_n C 5 dX0_moveValve_71 rfl ?_
      refine v_iald C 36 r (C_m C (u_36 r hi_r)) ⟨by decide, rfl, rfl⟩ (v_in (N := 17) (by decide) (by clear C hL171; grind) (by clear C hL171; grind)) dX0_moveValve_72 ?_
      refine v_iconst (v := 2) C dX0_moveValve_73 (by decide) ?_
      refine v_ic_eq C 171 dX0_moveValve_74 (by decide) (fun c_74 => ?_) (fun c_74 => ?_)
      · exact hL171  (by clear C hL171; grind)
      · have hL99 : ∀ (ra : Int32), (ra = ratF ((w 30 r) c.toNatClampNeg)) → V K E A 8 (QI K E A (P_X0_moveValve w z a r c)) 99 [(5, .int (((w 13 a) c.toNatClampNeg) - ((w 15 a) c.toNatClampNeg))), (4, .int sn), (3, .int ((w 30 r) c.toNatClampNeg)), (0, .ref (E.ad 0 a)), (1, .ref (E.ad 5 r)), (2, .int c)] [.int ra] w z := by
          intro ra hinv
          have e2 := hinv
          refine v_istore (lv2 := [(6, .int ra), (5, .int (((w 13 a) c.toNatClampNeg) - ((w 15 a) c.toNatClampNeg))), (4, .int sn), (3, .int ((w 30 r) c.toNatClampNeg)), (0, .ref (E.ad 0 a)), (1, .ref (E.ad 5 r)), (2, .int c)]) C dX0_moveValve_99 (by decide) rfl ?_
          refine v_iload C 0 dX0_moveValve_101 rfl ?_
          refine v_iload C 1 dX0_moveValve_103 rfl ?_
          refine v_ineg C dX0_moveValve_105 ?_
          refine v_mmin C x_812 x_577 x_85 x_578 ⟨by decide, Nat.le_of_ble_eq_true rfl⟩ dX0_moveValve_106 ?_
          refine v_istore (lv2 := [(7, .int (if (-(((w 13 a) c.toNatClampNeg) - ((w 15 a) c.toNatClampNeg))) < ra then (-(((w 13 a) c.toNatClampNeg) - ((w 15 a) c.toNatClampNeg))) else ra)), (6, .int ra), (5, .int (((w 13 a) c.toNatClampNeg) - ((w 15 a) c.toNatClampNeg))), (4, .int sn), (3, .int ((w 30 r) c.toNatClampNeg)), (0, .ref (E.ad 0 a)), (1, .ref (E.ad 5 r)), (2, .int c)]) C dX0_moveValve_109 (by decide) rfl ?_
          refine v_aload_n C 5 dX0_moveValve_111 rfl ?_
          refine v_gR C 0 a 2 15 a (C_m C (u_0 a hi_a)) k_0 (by decide) x_283 (fun _ _ _ => rfl) dX0_moveValve_112 ?_
          refine v_iload_n C 7 dX0_moveValve_115 rfl ?_
          refine v_dup2 C dX0_moveValve_116 rfl rfl ?_
          refine v_iald C 15 a (C_m C (u_15 a hi_a)) ⟨by decide, rfl, rfl⟩ (v_in (N := 17) (by decide) (by clear C hL171; grind) (by clear C hL171; grind)) dX0_moveValve_117 ?_
          refine v_iload C 0 dX0_moveValve_118 rfl ?_
          refine v_isub C dX0_moveValve_120 ?_
          refine v_iast C 15 a (C_m C (u_15 a hi_a)) ⟨by decide, rfl, rfl⟩ (v_in (N := 17) (by decide) (by clear C hL171; grind) (by clear C hL171; grind)) dX0_moveValve_121 ?_
          refine v_aload_n C 5 dX0_moveValve_122 rfl ?_
          refine v_gR C 0 a 3 16 a (C_m C (u_0 a hi_a)) k_0 (by decide) x_284 (fun _ _ _ => rfl) dX0_moveValve_123 ?_
          refine v_iload_n C 7 dX0_moveValve_126 rfl ?_
          refine v_sipush (v := 500) C dX0_moveValve_127 (by decide) ?_
          refine v_aload_n C 5 dX0_moveValve_130 rfl ?_
          refine v_gR C 0 a 3 16 a (C_m C (u_0 a hi_a)) k_0 (by decide) x_284 (fun _ _ _ => rfl) dX0_moveValve_131 ?_
          refine v_iload_n C 7 dX0_moveValve_134 rfl ?_
          refine v_iald C 16 a (C_m C (u_16 a hi_a)) ⟨by decide, rfl, rfl⟩ (v_in (N := 17) (by decide) (by clear C hL171; grind) (by clear C hL171; grind)) dX0_moveValve_135 ?_
          refine v_i (y := ((w 16 a) c.toNatClampNeg)) (by simp only [wS_s, wS_t, wS_a, ne_eq, Nat.reduceEqDiff, not_false_eq_true]) ?_
          refine v_iconst (v := 2) C dX0_moveValve_136 (by decide) ?_
          refine v_iload C 0 dX0_moveValve_137 rfl ?_
          refine v_imul C dX0_moveValve_139 ?_
          refine v_iadd C dX0_moveValve_140 ?_
          refine v_mmin C x_812 x_577 x_85 x_578 ⟨by decide, Nat.le_of_ble_eq_true rfl⟩ dX0_moveValve_141 ?_
          refine v_iast C 16 a (C_m C (u_16 a hi_a)) ⟨by decide, rfl, rfl⟩ (v_in (N := 17) (by decide) (by clear C hL171; grind) (by clear C hL171; grind)) dX0_moveValve_144 ?_
          refine v_iload_n C 4 dX0_moveValve_145 rfl ?_
          refine v_iconst (v := 1) C dX0_moveValve_146 (by decide) ?_
          refine v_ic_ne C 169 dX0_moveValve_147 (by decide) (fun c_147 => ?_) (fun c_147 => ?_)
          · refine v_iconst (v := 1) C dX0_moveValve_169 (by decide) ?_
            refine v_w (wS_id _ 13 a).symm ?_
            refine v_w (w2 := (wS (wS (wS w 13 a (w 13 a)) 15 a (upd (w 15 a) c.toNatClampNeg (((w 15 a) c.toNatClampNeg) - (if (-(((w 13 a) c.toNatClampNeg) - ((w 15 a) c.toNatClampNeg))) < ra then (-(((w 13 a) c.toNatClampNeg) - ((w 15 a) c.toNatClampNeg))) else ra)))) 16 a (upd (w 16 a) c.toNatClampNeg (if (((w 16 a) c.toNatClampNeg) + (2 * (if (-(((w 13 a) c.toNatClampNeg) - ((w 15 a) c.toNatClampNeg))) < ra then (-(((w 13 a) c.toNatClampNeg) - ((w 15 a) c.toNatClampNeg))) else ra))) < 500 then (((w 16 a) c.toNatClampNeg) + (2 * (if (-(((w 13 a) c.toNatClampNeg) - ((w 15 a) c.toNatClampNeg))) < ra then (-(((w 13 a) c.toNatClampNeg) - ((w 15 a) c.toNatClampNeg))) else ra))) else 500)))) (by simp only [wS_s, wS_t, wS_a, ne_eq, Nat.reduceEqDiff, not_false_eq_true, wS_wS, wS_p, wS_pp, Nat.reduceLT, id_eq]) ?_
            exact v_zret C dX0_moveValve_170 (by decide) ⟨(by clear C hL171; rw [vlv_set e1 e2 (by assumption) (by assumption)]; first | done | grind [upd_id]), (congr (congrArg Prod.mk (wS_eq (wS_eq (wS_eq rfl (by clear C hL171; rw [vlv_set e1 e2 (by assumption) (by assumption)]; first | done | grind [upd_id])) (by clear C hL171; rw [vlv_set e1 e2 (by assumption) (by assumption)]; first | done | grind [upd_id])) (by clear C hL171; rw [vlv_set e1 e2 (by assumption) (by assumption)]; first | done | grind [upd_id]))) rfl)⟩
          · refine v_aload_n C 5 dX0_moveValve_150 rfl ?_
            refine v_gR C 0 a 0 13 a (C_m C (u_0 a hi_a)) k_0 (by decide) x_281 (fun _ _ _ => rfl) dX0_moveValve_151 ?_
            refine v_iload_n C 7 dX0_moveValve_154 rfl ?_
            refine v_iconst (v := 0) C dX0_moveValve_155 (by decide) ?_
            refine v_aload_n C 5 dX0_moveValve_156 rfl ?_
            refine v_gR C 0 a 0 13 a (C_m C (u_0 a hi_a)) k_0 (by decide) x_281 (fun _ _ _ => rfl) dX0_moveValve_157 ?_
            refine v_iload_n C 7 dX0_moveValve_160 rfl ?_
            refine v_iald C 13 a (C_m C (u_13 a hi_a)) ⟨by decide, rfl, rfl⟩ (v_in (N := 17) (by decide) (by clear C hL171; grind) (by clear C hL171; grind)) dX0_moveValve_161 ?_
            refine v_i (y := ((w 13 a) c.toNatClampNeg)) (by simp only [wS_s, wS_t, wS_a, ne_eq, Nat.reduceEqDiff, not_false_eq_true]) ?_
            refine v_bipush (v := 8) C dX0_moveValve_162 (by decide) ?_
            refine v_isub C dX0_moveValve_164 ?_
            refine v_mmax C x_813 x_592 x_85 x_593 ⟨by decide, Nat.le_of_ble_eq_true rfl⟩ dX0_moveValve_165 ?_
            refine v_iast C 13 a (C_m C (u_13 a hi_a)) ⟨by decide, rfl, rfl⟩ (v_in (N := 17) (by decide) (by clear C hL171; grind) (by clear C hL171; grind)) dX0_moveValve_168 ?_
            refine v_iconst (v := 1) C dX0_moveValve_169 (by decide) ?_
            refine v_w (w2 := (wS (wS (wS w 13 a (upd (w 13 a) c.toNatClampNeg (if 0 < (((w 13 a) c.toNatClampNeg) - 8) then (((w 13 a) c.toNatClampNeg) - 8) else 0))) 15 a (upd (w 15 a) c.toNatClampNeg (((w 15 a) c.toNatClampNeg) - (if (-(((w 13 a) c.toNatClampNeg) - ((w 15 a) c.toNatClampNeg))) < ra then (-(((w 13 a) c.toNatClampNeg) - ((w 15 a) c.toNatClampNeg))) else ra)))) 16 a (upd (w 16 a) c.toNatClampNeg (if (((w 16 a) c.toNatClampNeg) + (2 * (if (-(((w 13 a) c.toNatClampNeg) - ((w 15 a) c.toNatClampNeg))) < ra then (-(((w 13 a) c.toNatClampNeg) - ((w 15 a) c.toNatClampNeg))) else ra))) < 500 then (((w 16 a) c.toNatClampNeg) + (2 * (if (-(((w 13 a) c.toNatClampNeg) - ((w 15 a) c.toNatClampNeg))) < ra then (-(((w 13 a) c.toNatClampNeg) - ((w 15 a) c.toNatClampNeg))) else ra))) else 500)))) (by simp only [wS_s, wS_t, wS_a, ne_eq, Nat.reduceEqDiff, not_false_eq_true, wS_wS, wS_p, wS_pp, Nat.reduceLT, id_eq]) ?_
            exact v_zret C dX0_moveValve_170 (by decide) ⟨(by clear C hL171; rw [vlv_set e1 e2 (by assumption) (by assumption)]; first | done | grind [upd_id]), (congr (congrArg Prod.mk (wS_eq (wS_eq (wS_eq rfl (by clear C hL171; rw [vlv_set e1 e2 (by assumption) (by assumption)]; first | done | grind [upd_id])) (by clear C hL171; rw [vlv_set e1 e2 (by assumption) (by assumption)]; first | done | grind [upd_id])) (by clear C hL171; rw [vlv_set e1 e2 (by assumption) (by assumption)]; first | done | grind [upd_id]))) rfl)⟩
        refine v_iload_n C 2 dX0_moveValve_77 rfl ?_
        refine v_iconst (v := 1) C dX0_moveValve_78 (by decide) ?_
        refine v_ic_ne C 87 dX0_moveValve_79 (by decide) (fun c_79 => ?_) (fun c_79 => ?_)
        · refine v_iload_n C 2 dX0_moveValve_87 rfl ?_
          refine v_iconst (v := 2) C dX0_moveValve_88 (by decide) ?_
          refine v_ic_ne C 97 dX0_moveValve_89 (by decide) (fun c_89 => ?_) (fun c_89 => ?_)
          · refine v_bipush (v := 20) C dX0_moveValve_97 (by decide) ?_
            exact hL99 20 (by clear C hL171 hL99; simp only [ratF]; grind)
          · refine v_bipush (v := 12) C dX0_moveValve_92 (by decide) ?_
            refine v_goto C 99 dX0_moveValve_94 (by decide) ?_
            exact hL99 12 (by clear C hL171 hL99; simp only [ratF]; grind)
        · refine v_bipush (v := 30) C dX0_moveValve_82 (by decide) ?_
          refine v_goto C 99 dX0_moveValve_84 (by decide) ?_
          exact hL99 30 (by clear C hL171 hL99; simp only [ratF]; grind)
  refine v_iload_n C 0 dX0_moveValve_20 rfl ?_
  refine v_iconst (v := 1) C dX0_moveValve_21 (by decide) ?_
  refine v_ic_ne C 30 dX0_moveValve_22 (by decide) (fun c_22 => ?_) (fun c_22 => ?_)
  · refine v_iload_n C 0 dX0_moveValve_30 rfl ?_
    refine v_iconst (v := 2) C dX0_moveValve_31 (by decide) ?_
    refine v_ic_ne C 40 dX0_moveValve_32 (by decide) (fun c_32 => ?_) (fun c_32 => ?_)
    · refine v_bipush (v := 20) C dX0_moveValve_40 (by decide) ?_
      exact hL42 20 (by clear C hL42; simp only [sens]; grind)
    · refine v_bipush (v := 30) C dX0_moveValve_35 (by decide) ?_
      refine v_goto C 42 dX0_moveValve_37 (by decide) ?_
      exact hL42 30 (by clear C hL42; simp only [sens]; grind)
  · refine v_bipush (v := 10) C dX0_moveValve_25 (by decide) ?_
    refine v_goto C 42 dX0_moveValve_27 (by decide) ?_
    exact hL42 10 (by clear C hL42; simp only [sens]; grind)
