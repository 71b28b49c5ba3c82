abbrev P_X12_go (w : Wi) (z : Wj) : WW → Prop := fun u_ => u_ = ((wS (wS (wS (wS w 1065 0 (fun _ => (goG ((w 41 0), (w 1063 0 0), (w 1064 0 0)) ((w 1065 0 0), (w 1066 0 0), (w 1067 0 0), (w 1068 0 0), (z 1071 0 0))).1)) 1066 0 (fun _ => (goG ((w 41 0), (w 1063 0 0), (w 1064 0 0)) ((w 1065 0 0), (w 1066 0 0), (w 1067 0 0), (w 1068 0 0), (z 1071 0 0))).2.1)) 1067 0 (fun _ => (goG ((w 41 0), (w 1063 0 0), (w 1064 0 0)) ((w 1065 0 0), (w 1066 0 0), (w 1067 0 0), (w 1068 0 0), (z 1071 0 0))).2.2.1)) 1068 0 (fun _ => (goG ((w 41 0), (w 1063 0 0), (w 1064 0 0)) ((w 1065 0 0), (w 1066 0 0), (w 1067 0 0), (w 1068 0 0), (z 1071 0 0))).2.2.2.1)), (wS z 1071 0 (fun _ => (goG ((w 41 0), (w 1063 0 0), (w 1064 0 0)) ((w 1065 0 0), (w 1066 0 0), (w 1067 0 0), (w 1068 0 0), (z 1071 0 0))).2.2.2.2)))
set_option maxHeartbeats 4000000 in
set_option maxRecDepth 100000 in
theorem c_X12_go (E : En) (hM : q_okM E) (w : Wi) (z : Wj) (h1 : 0 ≤ (w 1065 0 0)) (h2 : (w 1065 0 0) ≤ (w 1063 0 0)) (h3 : (w 1063 0 0) ≤ 740) (h4 : 0 ≤ (w 1064 0 0)) : CtV M_X12_go E [.ref (E.ad 12 0)] w z (P_X12_go w z) := by
  have hE := hM.1
  refine ctV_of (lv := [(0, .ref (E.ad 12 0))]) hE m_X12_go (Nat.le_of_ble_eq_true rfl) rfl ?_
  intro K A C0
  have C : Cx K E A cX12_go 5 RX12 none { frames := 1, cells := 0, slots := 0, locals := 21 } := C0
  clear C0
  have h0 : 0 ≤ (w 1063 0 0) := by grind
  obtain ⟨Pk, hPk⟩ : ∃ Pk : Nat, Pk = (skR (w 41 0) ((w 1063 0 0).toNatClampNeg - (w 1065 0 0).toNatClampNeg) (w 1065 0 0).toNatClampNeg) := ⟨_, rfl⟩
  have hL0 : ∀ (n_ : Nat) (p : Int32), (1000 - p).toNatClampNeg < n_ → (0 ≤ p ∧ p ≤ (w 1063 0 0) ∧ skR (w 41 0) ((w 1063 0 0).toNatClampNeg - p.toNatClampNeg) p.toNatClampNeg = Pk) → V K E A 5 (QV K E A (P_X12_go w z)) 0 [(0, .ref (E.ad 12 0))] [] (wS w 1065 0 (fun _ => p)) z := by
    intro n_
    induction n_ with
    | zero => intro p hm_; exact absurd hm_ (Nat.not_lt_zero _)
    | succ n_ ih_0 =>
      intro p hm_ hinv
      obtain ⟨g1, g2, g3⟩ := hinv
      have g4 : p < (w 1063 0 0) → (w 1063 0 0).toNatClampNeg - p.toNatClampNeg = (w 1063 0 0).toNatClampNeg - (p.toNatClampNeg + 1) + 1 := fun q => by have := (cl_lt g1 h0).mpr q; omega
      have hL52 : (Pk = p.toNatClampNeg) → V K E A 5 (QV K E A (P_X12_go w z)) 52 [(0, .ref (E.ad 12 0))] [] (wS w 1065 0 (fun _ => p)) z := by
        intro  hinv
        have hX := hinv
        have hpk : (skR (w 41 0) ((w 1063 0 0).toNatClampNeg - (w 1065 0 0).toNatClampNeg) (w 1065 0 0).toNatClampNeg) = p.toNatClampNeg := by rw [← hPk]; exact hX
        have hnI := nI_cl g1
        refine v_aload_n C 0 dX12_go_52 rfl ?_
        refine v_aload_n C 0 dX12_go_53 rfl ?_
        refine v_gI C 12 0 5 1065 p (hM.2 _ (u_12 0 (by decide))) k_12 (by decide) rfl rfl x_1247 (by simp only [wS_s, wS_t, wS_a, ne_eq, Nat.reduceEqDiff, not_false_eq_true, L7_1]) dX12_go_54 ?_
        refine v_pI C 12 0 6 1066 (hM.2 _ (u_12 0 (by decide))) k_12 ty_12 (by decide) rfl ⟨rfl, rfl⟩ x_1248 rfl rfl dX12_go_57 ?_
        refine v_aload_n C 0 dX12_go_60 rfl ?_
        refine v_gI C 12 0 3 1063 (w 1063 0 0) (hM.2 _ (u_12 0 (by decide))) k_12 (by decide) rfl rfl x_1245 (by simp only [wS_s, wS_t, wS_a, ne_eq, Nat.reduceEqDiff, not_false_eq_true, L7_1]) dX12_go_61 ?_
        refine v_aload_n C 0 dX12_go_64 rfl ?_
        refine v_gI C 12 0 4 1064 (w 1064 0 0) (hM.2 _ (u_12 0 (by decide))) k_12 (by decide) rfl rfl x_1246 (by simp only [wS_s, wS_t, wS_a, ne_eq, Nat.reduceEqDiff, not_false_eq_true, L7_1]) dX12_go_65 ?_
        refine v_ic_le C 96 dX12_go_68 (by decide) (fun c_68 => ?_) (fun c_68 => ?_)
        · refine v_aload_n C 0 dX12_go_96 rfl ?_
          refine v_gI C 12 0 5 1065 p (hM.2 _ (u_12 0 (by decide))) k_12 (by decide) rfl rfl x_1247 (by simp only [wS_s, wS_t, wS_a, ne_eq, Nat.reduceEqDiff, not_false_eq_true, L7_1]) dX12_go_97 ?_
          refine v_aload_n C 0 dX12_go_100 rfl ?_
          refine v_gI C 12 0 3 1063 (w 1063 0 0) (hM.2 _ (u_12 0 (by decide))) k_12 (by decide) rfl rfl x_1245 (by simp only [wS_s, wS_t, wS_a, ne_eq, Nat.reduceEqDiff, not_false_eq_true, L7_1]) dX12_go_101 ?_
          refine v_ic_lt C 113 dX12_go_104 (by decide) (fun c_104 => ?_) (fun c_104 => ?_)
          · refine v_aload_n C 0 dX12_go_113 rfl ?_
            refine v_gR C 12 0 1 41 0 (hM.2 _ (u_12 0 (by decide))) k_12 (by decide) x_1243 (fun _ _ _ => rfl) dX12_go_114 ?_
            refine v_aload_n C 0 dX12_go_117 rfl ?_
            refine v_gI C 12 0 5 1065 p (hM.2 _ (u_12 0 (by decide))) k_12 (by decide) rfl rfl x_1247 (by simp only [wS_s, wS_t, wS_a, ne_eq, Nat.reduceEqDiff, not_false_eq_true, L7_1]) dX12_go_118 ?_
            refine v_iald C 41 0 (hM.2 _ (u_41 0 (by decide))) ⟨by decide, rfl, rfl⟩ (by exact v_in (N := 740) (by decide) (by clear g3; grind) (by clear g3; grind)) dX12_go_121 ?_
            refine v_i (y := ((w 41 0) p.toNatClampNeg)) (by simp only [wS_s, wS_t, wS_a, ne_eq, Nat.reduceEqDiff, not_false_eq_true, L7_1]) ?_
            refine v_istore_n (lv2 := [(1, .int ((w 41 0) p.toNatClampNeg)), (0, .ref (E.ad 12 0))]) C dX12_go_122 rfl (by decide) rfl ?_
            have hL163 : (p < (w 1063 0 0) ∧ ((97 ≤ (w 41 0) p.toNatClampNeg ∧ (w 41 0) p.toNatClampNeg ≤ 122) ∨ (48 ≤ (w 41 0) p.toNatClampNeg ∧ (w 41 0) p.toNatClampNeg ≤ 57))) → V K E A 5 (QV K E A (P_X12_go w z)) 163 [(1, .int ((w 41 0) p.toNatClampNeg)), (0, .ref (E.ad 12 0))] [] (wS (wS w 1065 0 (fun _ => p)) 1066 0 (fun _ => p)) z := by
              intro  hinv
              obtain ⟨hps, hld⟩ := hinv
              obtain ⟨le, hle⟩ : ∃ le : Int32, le = (if 97 ≤ (w 41 0) p.toNatClampNeg ∧ (w 41 0) p.toNatClampNeg ≤ 122 then (1 : Int32) else 0) := ⟨_, rfl⟩
              obtain ⟨G, hG⟩ : ∃ G : Nat × Int32 × Int32 × Int64, G = wgo (w 41 0) p.toNatClampNeg le ((w 1063 0 0).toNatClampNeg - p.toNatClampNeg) p.toNatClampNeg 1 0 0 := ⟨_, rfl⟩
              refine v_iload_n C 0 dX12_go_163 rfl ?_
              refine v_sI C [.int ((w 41 0) p.toNatClampNeg)] 1 (c_X12_isLetter E hM _ _  ((w 41 0) p.toNatClampNeg)  ) m_X12_isLetter x_1491 x_1492 p_X12_isLetter rfl ⟨Nat.le_of_ble_eq_true rfl, Nat.le_of_ble_eq_true rfl⟩ rfl (Nat.le_of_ble_eq_true rfl) dX12_go_164 (fun r1 u1 v1 hp1 => ?_)
              obtain ⟨hr1, hu1⟩ := hp1
              subst hr1
              cases hu1
              have hL167 : ∀ (l1 : Int32), (l1 = le) → V K E A 5 (QV K E A (P_X12_go w z)) 167 [(1, .int ((w 41 0) p.toNatClampNeg)), (0, .ref (E.ad 12 0))] [.int l1] (wS (wS w 1065 0 (fun _ => p)) 1066 0 (fun _ => p)) z := by
                intro l1 hinv
                have el := hinv
                refine v_istore_n (lv2 := [(2, .int l1), (1, .int ((w 41 0) p.toNatClampNeg)), (0, .ref (E.ad 12 0))]) C dX12_go_167 rfl (by decide) rfl ?_
                refine v_iconst (v := 1) C dX12_go_168 (by decide) ?_
                refine v_istore_n (lv2 := [(3, .int 1), (2, .int l1), (1, .int ((w 41 0) p.toNatClampNeg)), (0, .ref (E.ad 12 0))]) C dX12_go_169 rfl (by decide) rfl ?_
                refine v_aload_n C 3 dX12_go_170 rfl ?_
                refine v_lconst (v := 0) C dX12_go_171 (by decide) ?_
                refine v_pJ C 12 0 11 1071 (hM.2 _ (u_12 0 (by decide))) k_12 ty_12 (by decide) rfl ⟨rfl, rfl⟩ x_1253 rfl rfl dX12_go_172 ?_
                refine v_aload_n C 3 dX12_go_175 rfl ?_
                refine v_iconst (v := 0) C dX12_go_176 (by decide) ?_
                refine v_pI C 12 0 8 1068 (hM.2 _ (u_12 0 (by decide))) k_12 ty_12 (by decide) rfl ⟨rfl, rfl⟩ x_1250 rfl rfl dX12_go_177 ?_
                have hL180 : ∀ (n_ : Nat) (good : Int32) (t : Int32) (nu : Int32) (wo : Int64), (1000 - t).toNatClampNeg < n_ → (p ≤ t ∧ t ≤ (w 1063 0 0) ∧ (good = 0 ∨ good = 1) ∧ wgo (w 41 0) p.toNatClampNeg le ((w 1063 0 0).toNatClampNeg - t.toNatClampNeg) t.toNatClampNeg good nu wo = G) → V K E A 5 (QV K E A (P_X12_go w z)) 180 [(3, .int good), (2, .int l1), (1, .int ((w 41 0) p.toNatClampNeg)), (0, .ref (E.ad 12 0))] [] (wS (wS (wS w 1065 0 (fun _ => t)) 1066 0 (fun _ => p)) 1068 0 (fun _ => nu)) (wS z 1071 0 (fun _ => wo)) := by
                  intro n_
                  induction n_ with
                  | zero => intro good t nu wo hm_; exact absurd hm_ (Nat.not_lt_zero _)
                  | succ n_ ih_180 =>
                    intro good t nu wo hm_ hinv
                    obtain ⟨k1, k2, kg, k3⟩ := hinv
                    have k0 : 0 ≤ t := by clear g3 k3; grind
                    have k4 : t < (w 1063 0 0) → (w 1063 0 0).toNatClampNeg - t.toNatClampNeg = (w 1063 0 0).toNatClampNeg - (t.toNatClampNeg + 1) + 1 := fun q => by have := (cl_lt k0 h0).mpr q; omega
                    have hL208 : (t < (w 1063 0 0) ∧ ((97 ≤ (w 41 0) t.toNatClampNeg ∧ (w 41 0) t.toNatClampNeg ≤ 122) ∨ (48 ≤ (w 41 0) t.toNatClampNeg ∧ (w 41 0) t.toNatClampNeg ≤ 57))) → V K E A 5 (QV K E A (P_X12_go w z)) 208 [(3, .int good), (2, .int l1), (1, .int ((w 41 0) p.toNatClampNeg)), (0, .ref (E.ad 12 0))] [] (wS (wS (wS w 1065 0 (fun _ => t)) 1066 0 (fun _ => p)) 1068 0 (fun _ => nu)) (wS z 1071 0 (fun _ => wo)) := by
                      intro  hinv
                      obtain ⟨hts, hl2⟩ := hinv
                      refine v_aload_n C 3 dX12_go_208 rfl ?_
                      refine v_gR C 12 0 1 41 0 (hM.2 _ (u_12 0 (by decide))) k_12 (by decide) x_1243 (fun _ _ _ => rfl) dX12_go_209 ?_
                      refine v_aload_n C 3 dX12_go_212 rfl ?_
                      refine v_gI C 12 0 5 1065 t (hM.2 _ (u_12 0 (by decide))) k_12 (by decide) rfl rfl x_1247 (by simp only [wS_s, wS_t, wS_a, ne_eq, Nat.reduceEqDiff, not_false_eq_true, L7_1]) dX12_go_213 ?_
                      refine v_iald C 41 0 (hM.2 _ (u_41 0 (by decide))) ⟨by decide, rfl, rfl⟩ (by exact v_in (N := 740) (by decide) (by clear g3; grind) (by clear g3; grind)) dX12_go_216 ?_
                      refine v_i (y := ((w 41 0) t.toNatClampNeg)) (by simp only [wS_s, wS_t, wS_a, ne_eq, Nat.reduceEqDiff, not_false_eq_true, L7_1]) ?_
                      refine v_istore (lv2 := [(4, .int ((w 41 0) t.toNatClampNeg)), (3, .int good), (2, .int l1), (1, .int ((w 41 0) p.toNatClampNeg)), (0, .ref (E.ad 12 0))]) C dX12_go_217 (by decide) rfl ?_
                      have hL237 : ∀ (g2_ : Int32), (g2_ = (if good ≠ 0 ∧ (if 97 ≤ (w 41 0) t.toNatClampNeg ∧ (w 41 0) t.toNatClampNeg ≤ 122 then (1 : Int32) else 0) = le then 1 else 0)) → V K E A 5 (QV K E A (P_X12_go w z)) 237 [(4, .int ((w 41 0) t.toNatClampNeg)), (3, .int good), (2, .int l1), (1, .int ((w 41 0) p.toNatClampNeg)), (0, .ref (E.ad 12 0))] [.int g2_] (wS (wS (wS w 1065 0 (fun _ => t)) 1066 0 (fun _ => p)) 1068 0 (fun _ => nu)) (wS z 1071 0 (fun _ => wo)) := by
                        intro g2_ hinv
                        have eg := hinv
                        have eg2 : g2_ = 0 ∨ g2_ = 1 := by rw [eg]; exact ite_01
                        refine v_istore_n (lv2 := [(3, .int g2_), (4, .int ((w 41 0) t.toNatClampNeg)), (2, .int l1), (1, .int ((w 41 0) p.toNatClampNeg)), (0, .ref (E.ad 12 0))]) C dX12_go_237 rfl (by decide) rfl ?_
                        have hL271 : ∀ (wo2 : Int64), (wo2 = (if t.toNatClampNeg - p.toNatClampNeg < 5 then 27 * wo + ((w 41 0) t.toNatClampNeg).toInt64 - 96 else wo)) → V K E A 5 (QV K E A (P_X12_go w z)) 271 [(3, .int g2_), (4, .int ((w 41 0) t.toNatClampNeg)), (2, .int l1), (1, .int ((w 41 0) p.toNatClampNeg)), (0, .ref (E.ad 12 0))] [] (wS (wS (wS w 1065 0 (fun _ => t)) 1066 0 (fun _ => p)) 1068 0 (fun _ => nu)) (wS z 1071 0 (fun _ => wo2)) := by
                          intro wo2 hinv
                          have ew2 := hinv
                          have hL301 : ∀ (nu2 : Int32), (nu2 = (if t.toNatClampNeg - p.toNatClampNeg < 3 then 10 * nu + (w 41 0) t.toNatClampNeg - 48 else nu)) → V K E A 5 (QV K E A (P_X12_go w z)) 301 [(3, .int g2_), (4, .int ((w 41 0) t.toNatClampNeg)), (2, .int l1), (1, .int ((w 41 0) p.toNatClampNeg)), (0, .ref (E.ad 12 0))] [] (wS (wS (wS w 1065 0 (fun _ => t)) 1066 0 (fun _ => p)) 1068 0 (fun _ => nu2)) (wS z 1071 0 (fun _ => wo2)) := by
                            intro nu2 hinv
                            have en2 := hinv
                            refine v_aload_n C 4 dX12_go_301 rfl ?_
                            refine v_dup C dX12_go_302 rfl ?_
                            refine v_gI C 12 0 5 1065 t (hM.2 _ (u_12 0 (by decide))) k_12 (by decide) rfl rfl x_1247 (by simp only [wS_s, wS_t, wS_a, ne_eq, Nat.reduceEqDiff, not_false_eq_true, L7_1]) dX12_go_303 ?_
                            refine v_iconst (v := 1) C dX12_go_306 (by decide) ?_
                            refine v_iadd C dX12_go_307 ?_
                            refine v_pI C 12 0 5 1065 (hM.2 _ (u_12 0 (by decide))) k_12 ty_12 (by decide) rfl ⟨rfl, rfl⟩ x_1247 rfl rfl dX12_go_308 ?_
                            refine v_goto C 180 dX12_go_311 (by decide) ?_
                            refine v_w (w2 := (wS (wS (wS w 1065 0 (fun _ => (t + 1))) 1066 0 (fun _ => p)) 1068 0 (fun _ => nu2))) (by simp only [wS_s, wS_t, wS_a, ne_eq, Nat.reduceEqDiff, not_false_eq_true, wS_wS, wS_p, wS_pp, Nat.reduceLT, id_eq, L7_1]) ?_
                            refine v_l [0, 2, 3, 4] rfl ?_
                            exact ih_180 g2_ (t + 1) nu2 wo2 (by clear C ih_0 ih_180; exact Nat.lt_of_lt_of_le (m_up (by clear g3 k3; grind) (by clear g3 k3; grind)) (Nat.le_of_lt_succ hm_)) (by clear C ih_0 ih_180; refine ⟨by clear g3 k3 hle; grind, by clear g3 k3 hle; grind, eg2, ?_⟩; rw [← k3, k4 (by clear g3 k3 hle; grind), cl_succ k0 (by clear g3 k3 hle; grind)]; simp only [wgo]; rw [if_pos hl2, ← eg, ← en2, ← ew2])
                          refine v_aload_n C 4 dX12_go_271 rfl ?_
                          refine v_gI C 12 0 5 1065 t (hM.2 _ (u_12 0 (by decide))) k_12 (by decide) rfl rfl x_1247 (by simp only [wS_s, wS_t, wS_a, ne_eq, Nat.reduceEqDiff, not_false_eq_true, L7_1]) dX12_go_272 ?_
                          refine v_aload_n C 4 dX12_go_275 rfl ?_
                          refine v_gI C 12 0 6 1066 p (hM.2 _ (u_12 0 (by decide))) k_12 (by decide) rfl rfl x_1248 (by simp only [wS_s, wS_t, wS_a, ne_eq, Nat.reduceEqDiff, not_false_eq_true, L7_1]) dX12_go_276 ?_
                          refine v_isub C dX12_go_279 ?_
                          refine v_iconst (v := 3) C dX12_go_280 (by decide) ?_
                          refine v_ic_ge C 301 dX12_go_281 (by decide) (fun c_281 => ?_) (fun c_281 => ?_)
                          · exact hL301 nu (by clear C ih_0 ih_180 hL301; have z := cl_sub (x := t) (y := p) g1 k1; have z2 := cl_lt (x := t - p) (y := 3) (by clear g3 k3 hle hld; grind) (by decide); rw [z, show (3 : Int32).toNatClampNeg = 3 from rfl] at z2; first | (rw [if_pos (z2.mpr (by clear g3 k3 hle hld z2; grind))]; done) | (rw [if_neg (fun q => absurd (z2.mp q) (by clear g3 k3 hle hld z2; grind))]; done))
                          · refine v_aload_n C 4 dX12_go_284 rfl ?_
                            refine v_bipush (v := 10) C dX12_go_285 (by decide) ?_
                            refine v_aload_n C 4 dX12_go_287 rfl ?_
                            refine v_gI C 12 0 8 1068 nu (hM.2 _ (u_12 0 (by decide))) k_12 (by decide) rfl rfl x_1250 (by simp only [wS_s, wS_t, wS_a, ne_eq, Nat.reduceEqDiff, not_false_eq_true, L7_1]) dX12_go_288 ?_
                            refine v_imul C dX12_go_291 ?_
                            refine v_iload C 1 dX12_go_292 rfl ?_
                            refine v_iadd C dX12_go_294 ?_
                            refine v_bipush (v := 48) C dX12_go_295 (by decide) ?_
                            refine v_isub C dX12_go_297 ?_
                            refine v_pI C 12 0 8 1068 (hM.2 _ (u_12 0 (by decide))) k_12 ty_12 (by decide) rfl ⟨rfl, rfl⟩ x_1250 rfl rfl dX12_go_298 ?_
                            refine v_w (w2 := (wS (wS (wS w 1065 0 (fun _ => t)) 1066 0 (fun _ => p)) 1068 0 (fun _ => (((10 * nu) + ((w 41 0) t.toNatClampNeg)) - 48)))) (by simp only [wS_s, wS_t, wS_a, ne_eq, Nat.reduceEqDiff, not_false_eq_true, wS_wS, wS_p, wS_pp, Nat.reduceLT, id_eq, L7_1]) ?_
                            exact hL301 (((10 * nu) + ((w 41 0) t.toNatClampNeg)) - 48) (by clear C ih_0 ih_180 hL301; have z := cl_sub (x := t) (y := p) g1 k1; have z2 := cl_lt (x := t - p) (y := 3) (by clear g3 k3 hle hld; grind) (by decide); rw [z, show (3 : Int32).toNatClampNeg = 3 from rfl] at z2; first | (rw [if_pos (z2.mpr (by clear g3 k3 hle hld z2; grind))]; done) | (rw [if_neg (fun q => absurd (z2.mp q) (by clear g3 k3 hle hld z2; grind))]; done))
                        refine v_aload_n C 4 dX12_go_238 rfl ?_
                        refine v_gI C 12 0 5 1065 t (hM.2 _ (u_12 0 (by decide))) k_12 (by decide) rfl rfl x_1247 (by simp only [wS_s, wS_t, wS_a, ne_eq, Nat.reduceEqDiff, not_false_eq_true, L7_1]) dX12_go_239 ?_
                        refine v_aload_n C 4 dX12_go_242 rfl ?_
                        refine v_gI C 12 0 6 1066 p (hM.2 _ (u_12 0 (by decide))) k_12 (by decide) rfl rfl x_1248 (by simp only [wS_s, wS_t, wS_a, ne_eq, Nat.reduceEqDiff, not_false_eq_true, L7_1]) dX12_go_243 ?_
                        refine v_isub C dX12_go_246 ?_
                        refine v_iconst (v := 5) C dX12_go_247 (by decide) ?_
                        refine v_ic_ge C 271 dX12_go_248 (by decide) (fun c_248 => ?_) (fun c_248 => ?_)
                        · exact hL271 wo (by clear C ih_0 ih_180 hL271; have z := cl_sub (x := t) (y := p) g1 k1; have z2 := cl_lt (x := t - p) (y := 5) (by clear g3 k3 hle hld; grind) (by decide); rw [z, show (5 : Int32).toNatClampNeg = 5 from rfl] at z2; first | (rw [if_pos (z2.mpr (by clear g3 k3 hle hld z2; grind))]; done) | (rw [if_neg (fun q => absurd (z2.mp q) (by clear g3 k3 hle hld z2; grind))]; done))
                        · refine v_aload_n C 4 dX12_go_251 rfl ?_
                          refine v_ldc2 C x_1501 dX12_go_252 ?_
                          refine v_aload_n C 4 dX12_go_255 rfl ?_
                          refine v_gJ C 12 0 11 1071 wo (hM.2 _ (u_12 0 (by decide))) k_12 (by decide) rfl rfl x_1253 (by simp only [wS_s, wS_t, wS_a, ne_eq, Nat.reduceEqDiff, not_false_eq_true, L7_1]) dX12_go_256 ?_
                          refine v_lmul C dX12_go_259 ?_
                          refine v_iload C 1 dX12_go_260 rfl ?_
                          refine v_i2l C dX12_go_262 ?_
                          refine v_ladd C dX12_go_263 ?_
                          refine v_ldc2 C x_1502 dX12_go_264 ?_
                          refine v_lsub C dX12_go_267 ?_
                          refine v_pJ C 12 0 11 1071 (hM.2 _ (u_12 0 (by decide))) k_12 ty_12 (by decide) rfl ⟨rfl, rfl⟩ x_1253 rfl rfl dX12_go_268 ?_
                          refine v_z (z2 := (wS z 1071 0 (fun _ => (((27 * wo) + ((((w 41 0) t.toNatClampNeg) : Int32).toInt64)) - 96)))) (by simp only [wS_s, wS_t, wS_a, ne_eq, Nat.reduceEqDiff, not_false_eq_true, wS_wS, wS_p, wS_pp, Nat.reduceLT, id_eq, L7_1]) ?_
                          exact hL271 (((27 * wo) + ((((w 41 0) t.toNatClampNeg) : Int32).toInt64)) - 96) (by clear C ih_0 ih_180 hL271; have z := cl_sub (x := t) (y := p) g1 k1; have z2 := cl_lt (x := t - p) (y := 5) (by clear g3 k3 hle hld; grind) (by decide); rw [z, show (5 : Int32).toNatClampNeg = 5 from rfl] at z2; first | (rw [if_pos (z2.mpr (by clear g3 k3 hle hld z2; grind))]; done) | (rw [if_neg (fun q => absurd (z2.mp q) (by clear g3 k3 hle hld z2; grind))]; done))
                      refine v_iload_n C 1 dX12_go_219 rfl ?_
                      refine v_if_eq C 236 dX12_go_220 (by decide) (fun c_220 => ?_) (fun c_220 => ?_)
                      · refine v_iconst (v := 0) C dX12_go_236 (by decide) ?_
                        exact hL237 0 (by clear C ih_0 ih_180 hL237; rw [← el]; clear g3 k3 hle hld el; grind)
                      · refine v_iload C 0 dX12_go_223 rfl ?_
                        refine v_sI C [.int ((w 41 0) t.toNatClampNeg)] 1 (c_X12_isLetter E hM _ _  ((w 41 0) t.toNatClampNeg)  ) m_X12_isLetter x_1491 x_1492 p_X12_isLetter rfl ⟨Nat.le_of_ble_eq_true rfl, Nat.le_of_ble_eq_true rfl⟩ rfl (Nat.le_of_ble_eq_true rfl) dX12_go_225 (fun r2 u2 v2 hp2 => ?_)
                        obtain ⟨hr2, hu2⟩ := hp2
                        subst hr2
                        cases hu2
                        refine v_iload_n C 2 dX12_go_228 rfl ?_
                        refine v_ic_ne C 236 dX12_go_229 (by decide) (fun c_229 => ?_) (fun c_229 => ?_)
                        · refine v_iconst (v := 0) C dX12_go_236 (by decide) ?_
                          exact hL237 0 (by clear C ih_0 ih_180 hL237; rw [← el]; clear g3 k3 hle hld el; grind)
                        · refine v_iconst (v := 1) C dX12_go_232 (by decide) ?_
                          refine v_goto C 237 dX12_go_233 (by decide) ?_
                          exact hL237 1 (by clear C ih_0 ih_180 hL237; rw [← el]; clear g3 k3 hle hld el; grind)
                    have hL314 : (G = (t.toNatClampNeg, good, nu, wo)) → V K E A 5 (QV K E A (P_X12_go w z)) 314 [(3, .int good), (2, .int l1), (1, .int ((w 41 0) p.toNatClampNeg)), (0, .ref (E.ad 12 0))] [] (wS (wS (wS w 1065 0 (fun _ => t)) 1066 0 (fun _ => p)) 1068 0 (fun _ => nu)) (wS z 1071 0 (fun _ => wo)) := by
                      intro  hinv
                      have hY := hinv
                      have hL353 : ∀ (kd : Int32), (kd = knd good le (t.toNatClampNeg - p.toNatClampNeg)) → V K E A 5 (QV K E A (P_X12_go w z)) 353 [(3, .int good), (2, .int l1), (1, .int ((w 41 0) p.toNatClampNeg)), (0, .ref (E.ad 12 0))] [.int kd, .ref (E.ad 12 0)] (wS (wS (wS w 1065 0 (fun _ => t)) 1066 0 (fun _ => p)) 1068 0 (fun _ => nu)) (wS z 1071 0 (fun _ => wo)) := by
                        intro kd hinv
                        have ek := hinv
                        refine v_pI C 12 0 7 1067 (hM.2 _ (u_12 0 (by decide))) k_12 ty_12 (by decide) rfl ⟨rfl, rfl⟩ x_1249 rfl rfl dX12_go_353 ?_
                        refine v_w (w2 := (wS (wS (wS (wS w 1065 0 (fun _ => t)) 1066 0 (fun _ => p)) 1067 0 (fun _ => kd)) 1068 0 (fun _ => nu))) (by simp only [wS_s, wS_t, wS_a, ne_eq, Nat.reduceEqDiff, not_false_eq_true, wS_wS, wS_p, wS_pp, Nat.reduceLT, id_eq, L7_1]) ?_
                        exact v_vret C dX12_go_356 (congr (congrArg Prod.mk (wS_eq (wS_eq (wS_eq (wS_eq rfl (fu_eq (by clear C ih_0 ih_180 hL208; simp only [goG]; rw [hpk, if_neg (show ¬ ((w 1064 0 0) < (w 1063 0 0) ∧ (w 1064 0 0).toNatClampNeg ≤ p.toNatClampNeg) from fun q => absurd ((cl_le h4 g1).mp q.2) (by have := q.1; clear g3 k3 hle hG hY; grind)), if_neg (show ¬ (w 1063 0 0).toNatClampNeg ≤ p.toNatClampNeg from fun q => absurd ((cl_le h0 g1).mp q) (by clear g3 k3 hle hG hY; grind)), if_neg (not_not_intro hld), ← hle, ← hG, hY, hnI]; first | done | exact (nI_cl k0).symm | exact ek))) (fu_eq (by clear C ih_0 ih_180 hL208; simp only [goG]; rw [hpk, if_neg (show ¬ ((w 1064 0 0) < (w 1063 0 0) ∧ (w 1064 0 0).toNatClampNeg ≤ p.toNatClampNeg) from fun q => absurd ((cl_le h4 g1).mp q.2) (by have := q.1; clear g3 k3 hle hG hY; grind)), if_neg (show ¬ (w 1063 0 0).toNatClampNeg ≤ p.toNatClampNeg from fun q => absurd ((cl_le h0 g1).mp q) (by clear g3 k3 hle hG hY; grind)), if_neg (not_not_intro hld), ← hle, ← hG, hY, hnI]; first | done | exact (nI_cl k0).symm | exact ek))) (fu_eq (by clear C ih_0 ih_180 hL208; simp only [goG]; rw [hpk, if_neg (show ¬ ((w 1064 0 0) < (w 1063 0 0) ∧ (w 1064 0 0).toNatClampNeg ≤ p.toNatClampNeg) from fun q => absurd ((cl_le h4 g1).mp q.2) (by have := q.1; clear g3 k3 hle hG hY; grind)), if_neg (show ¬ (w 1063 0 0).toNatClampNeg ≤ p.toNatClampNeg from fun q => absurd ((cl_le h0 g1).mp q) (by clear g3 k3 hle hG hY; grind)), if_neg (not_not_intro hld), ← hle, ← hG, hY, hnI]; first | done | exact (nI_cl k0).symm | exact ek))) (fu_eq (by clear C ih_0 ih_180 hL208; simp only [goG]; rw [hpk, if_neg (show ¬ ((w 1064 0 0) < (w 1063 0 0) ∧ (w 1064 0 0).toNatClampNeg ≤ p.toNatClampNeg) from fun q => absurd ((cl_le h4 g1).mp q.2) (by have := q.1; clear g3 k3 hle hG hY; grind)), if_neg (show ¬ (w 1063 0 0).toNatClampNeg ≤ p.toNatClampNeg from fun q => absurd ((cl_le h0 g1).mp q) (by clear g3 k3 hle hG hY; grind)), if_neg (not_not_intro hld), ← hle, ← hG, hY, hnI]; first | done | exact (nI_cl k0).symm | exact ek)))) (wS_eq rfl (fu_eq (by clear C ih_0 ih_180 hL208; simp only [goG]; rw [hpk, if_neg (show ¬ ((w 1064 0 0) < (w 1063 0 0) ∧ (w 1064 0 0).toNatClampNeg ≤ p.toNatClampNeg) from fun q => absurd ((cl_le h4 g1).mp q.2) (by have := q.1; clear g3 k3 hle hG hY; grind)), if_neg (show ¬ (w 1063 0 0).toNatClampNeg ≤ p.toNatClampNeg from fun q => absurd ((cl_le h0 g1).mp q) (by clear g3 k3 hle hG hY; grind)), if_neg (not_not_intro hld), ← hle, ← hG, hY, hnI]; first | done | exact (nI_cl k0).symm | exact ek))))
                      refine v_aload_n C 3 dX12_go_314 rfl ?_
                      refine v_iload_n C 0 dX12_go_315 rfl ?_
                      refine v_if_eq C 340 dX12_go_316 (by decide) (fun c_316 => ?_) (fun c_316 => ?_)
                      · refine v_iconst (v := 1) C dX12_go_340 (by decide) ?_
                        refine v_goto C 353 dX12_go_341 (by decide) ?_
                        exact hL353 1 (by clear C ih_0 ih_180 hL208 hL353; have z := cl_sub (x := t) (y := p) g1 k1; have z5 := cl_lt (x := 5) (y := t - p) (by decide) (by clear g3 k3 hle hld; grind); have z3 := cl_lt (x := 3) (y := t - p) (by decide) (by clear g3 k3 hle hld; grind); rw [z, show (5 : Int32).toNatClampNeg = 5 from rfl] at z5; rw [z, show (3 : Int32).toNatClampNeg = 3 from rfl] at z3; rw [← el]; simp only [knd]; clear g3 k3 hle hld hY el; grind)
                      · refine v_aload_n C 3 dX12_go_319 rfl ?_
                        refine v_gI C 12 0 5 1065 t (hM.2 _ (u_12 0 (by decide))) k_12 (by decide) rfl rfl x_1247 (by simp only [wS_s, wS_t, wS_a, ne_eq, Nat.reduceEqDiff, not_false_eq_true, L7_1]) dX12_go_320 ?_
                        refine v_aload_n C 3 dX12_go_323 rfl ?_
                        refine v_gI C 12 0 6 1066 p (hM.2 _ (u_12 0 (by decide))) k_12 (by decide) rfl rfl x_1248 (by simp only [wS_s, wS_t, wS_a, ne_eq, Nat.reduceEqDiff, not_false_eq_true, L7_1]) dX12_go_324 ?_
                        refine v_isub C dX12_go_327 ?_
                        refine v_iload_n C 1 dX12_go_328 rfl ?_
                        refine v_if_eq C 336 dX12_go_329 (by decide) (fun c_329 => ?_) (fun c_329 => ?_)
                        · refine v_iconst (v := 3) C dX12_go_336 (by decide) ?_
                          refine v_ic_le C 344 dX12_go_337 (by decide) (fun c_337 => ?_) (fun c_337 => ?_)
                          · refine v_iload_n C 1 dX12_go_344 rfl ?_
                            refine v_if_eq C 352 dX12_go_345 (by decide) (fun c_345 => ?_) (fun c_345 => ?_)
                            · refine v_iconst (v := 3) C dX12_go_352 (by decide) ?_
                              exact hL353 3 (by clear C ih_0 ih_180 hL208 hL353; have z := cl_sub (x := t) (y := p) g1 k1; have z5 := cl_lt (x := 5) (y := t - p) (by decide) (by clear g3 k3 hle hld; grind); have z3 := cl_lt (x := 3) (y := t - p) (by decide) (by clear g3 k3 hle hld; grind); rw [z, show (5 : Int32).toNatClampNeg = 5 from rfl] at z5; rw [z, show (3 : Int32).toNatClampNeg = 3 from rfl] at z3; rw [← el]; simp only [knd]; clear g3 k3 hle hld hY el; grind)
                            · refine v_iconst (v := 2) C dX12_go_348 (by decide) ?_
                              refine v_goto C 353 dX12_go_349 (by decide) ?_
                              exact hL353 2 (by clear C ih_0 ih_180 hL208 hL353; have z := cl_sub (x := t) (y := p) g1 k1; have z5 := cl_lt (x := 5) (y := t - p) (by decide) (by clear g3 k3 hle hld; grind); have z3 := cl_lt (x := 3) (y := t - p) (by decide) (by clear g3 k3 hle hld; grind); rw [z, show (5 : Int32).toNatClampNeg = 5 from rfl] at z5; rw [z, show (3 : Int32).toNatClampNeg = 3 from rfl] at z3; rw [← el]; simp only [knd]; clear g3 k3 hle hld hY el; grind)
                          · refine v_iconst (v := 1) C dX12_go_340 (by decide) ?_
                            refine v_goto C 353 dX12_go_341 (by decide) ?_
                            exact hL353 1 (by clear C ih_0 ih_180 hL208 hL353; have z := cl_sub (x := t) (y := p) g1 k1; have z5 := cl_lt (x := 5) (y := t - p) (by decide) (by clear g3 k3 hle hld; grind); have z3 := cl_lt (x := 3) (y := t - p) (by decide) (by clear g3 k3 hle hld; grind); rw [z, show (5 : Int32).toNatClampNeg = 5 from rfl] at z5; rw [z, show (3 : Int32).toNatClampNeg = 3 from rfl] at z3; rw [← el]; simp only [knd]; clear g3 k3 hle hld hY el; grind)
                        · refine v_iconst (v := 5) C dX12_go_332 (by decide) ?_
                          refine v_goto C 337 dX12_go_333 (by decide) ?_
                          refine v_ic_le C 344 dX12_go_337 (by decide) (fun c_337 => ?_) (fun c_337 => ?_)
                          · refine v_iload_n C 1 dX12_go_344 rfl ?_
                            refine v_if_eq C 352 dX12_go_345 (by decide) (fun c_345 => ?_) (fun c_345 => ?_)
                            · refine v_iconst (v := 3) C dX12_go_352 (by decide) ?_
                              exact hL353 3 (by clear C ih_0 ih_180 hL208 hL353; have z := cl_sub (x := t) (y := p) g1 k1; have z5 := cl_lt (x := 5) (y := t - p) (by decide) (by clear g3 k3 hle hld; grind); have z3 := cl_lt (x := 3) (y := t - p) (by decide) (by clear g3 k3 hle hld; grind); rw [z, show (5 : Int32).toNatClampNeg = 5 from rfl] at z5; rw [z, show (3 : Int32).toNatClampNeg = 3 from rfl] at z3; rw [← el]; simp only [knd]; clear g3 k3 hle hld hY el; grind)
                            · refine v_iconst (v := 2) C dX12_go_348 (by decide) ?_
                              refine v_goto C 353 dX12_go_349 (by decide) ?_
                              exact hL353 2 (by clear C ih_0 ih_180 hL208 hL353; have z := cl_sub (x := t) (y := p) g1 k1; have z5 := cl_lt (x := 5) (y := t - p) (by decide) (by clear g3 k3 hle hld; grind); have z3 := cl_lt (x := 3) (y := t - p) (by decide) (by clear g3 k3 hle hld; grind); rw [z, show (5 : Int32).toNatClampNeg = 5 from rfl] at z5; rw [z, show (3 : Int32).toNatClampNeg = 3 from rfl] at z3; rw [← el]; simp only [knd]; clear g3 k3 hle hld hY el; grind)
                          · refine v_iconst (v := 1) C dX12_go_340 (by decide) ?_
                            refine v_goto C 353 dX12_go_341 (by decide) ?_
                            exact hL353 1 (by clear C ih_0 ih_180 hL208 hL353; have z := cl_sub (x := t) (y := p) g1 k1; have z5 := cl_lt (x := 5) (y := t - p) (by decide) (by clear g3 k3 hle hld; grind); have z3 := cl_lt (x := 3) (y := t - p) (by decide) (by clear g3 k3 hle hld; grind); rw [z, show (5 : Int32).toNatClampNeg = 5 from rfl] at z5; rw [z, show (3 : Int32).toNatClampNeg = 3 from rfl] at z3; rw [← el]; simp only [knd]; clear g3 k3 hle hld hY el; grind)
                    refine v_aload_n C 3 dX12_go_180 rfl ?_
                    refine v_aload_n C 3 dX12_go_181 rfl ?_
                    refine v_gI C 12 0 5 1065 t (hM.2 _ (u_12 0 (by decide))) k_12 (by decide) rfl rfl x_1247 (by simp only [wS_s, wS_t, wS_a, ne_eq, Nat.reduceEqDiff, not_false_eq_true, L7_1]) dX12_go_182 ?_
                    refine v_vI C 12 0 [.int t] 1 (c_X12_byteAt E hM _ _  t  (by clear C ih_0 ih_180 hL208 hL314; (try simp only [wS_s, wS_t, wS_a, ne_eq, Nat.reduceEqDiff, not_false_eq_true, L7_1]); clear g3; grind) (by clear C ih_0 ih_180 hL208 hL314; (try simp only [wS_s, wS_t, wS_a, ne_eq, Nat.reduceEqDiff, not_false_eq_true, L7_1]); exact h3)) m_X12_byteAt x_1497 x_1499 x_39 p_X12_byteAt rfl ⟨Nat.le_of_ble_eq_true rfl, Nat.le_of_ble_eq_true rfl⟩ (hM.2 _ (u_12 0 (by decide))) k_12 rfl (Nat.le_of_ble_eq_true rfl) dX12_go_185 (fun r3 u3 v3 hp3 => ?_)
                    obtain ⟨hr3, hu3⟩ := hp3
                    subst hr3
                    cases hu3
                    refine v_i (y := if t < (w 1063 0 0) then (w 41 0) (t).toNatClampNeg else 0) (by simp only [wS_s, wS_t, wS_a, ne_eq, Nat.reduceEqDiff, not_false_eq_true, L7_1]) ?_
                    refine v_sI C [.int (if t < (w 1063 0 0) then (w 41 0) (t).toNatClampNeg else 0)] 1 (c_X12_isLetter E hM _ _  (if t < (w 1063 0 0) then (w 41 0) (t).toNatClampNeg else 0)  ) m_X12_isLetter x_1491 x_1492 p_X12_isLetter rfl ⟨Nat.le_of_ble_eq_true rfl, Nat.le_of_ble_eq_true rfl⟩ rfl (Nat.le_of_ble_eq_true rfl) dX12_go_188 (fun r4 u4 v4 hp4 => ?_)
                    obtain ⟨hr4, hu4⟩ := hp4
                    subst hr4
                    cases hu4
                    refine v_if_ne C 208 dX12_go_191 (by decide) (fun c_191 => ?_) (fun c_191 => ?_)
                    · exact hL208  (by clear C ih_0 ih_180 hL208 hL314; clear g3 k3 hle hld; grind)
                    · refine v_aload_n C 3 dX12_go_194 rfl ?_
                      refine v_aload_n C 3 dX12_go_195 rfl ?_
                      refine v_gI C 12 0 5 1065 t (hM.2 _ (u_12 0 (by decide))) k_12 (by decide) rfl rfl x_1247 (by simp only [wS_s, wS_t, wS_a, ne_eq, Nat.reduceEqDiff, not_false_eq_true, L7_1]) dX12_go_196 ?_
                      refine v_vI C 12 0 [.int t] 1 (c_X12_byteAt E hM _ _  t  (by clear C ih_0 ih_180 hL208 hL314; (try simp only [wS_s, wS_t, wS_a, ne_eq, Nat.reduceEqDiff, not_false_eq_true, L7_1]); clear g3; grind) (by clear C ih_0 ih_180 hL208 hL314; (try simp only [wS_s, wS_t, wS_a, ne_eq, Nat.reduceEqDiff, not_false_eq_true, L7_1]); exact h3)) m_X12_byteAt x_1497 x_1499 x_39 p_X12_byteAt rfl ⟨Nat.le_of_ble_eq_true rfl, Nat.le_of_ble_eq_true rfl⟩ (hM.2 _ (u_12 0 (by decide))) k_12 rfl (Nat.le_of_ble_eq_true rfl) dX12_go_199 (fun r5 u5 v5 hp5 => ?_)
                      obtain ⟨hr5, hu5⟩ := hp5
                      subst hr5
                      cases hu5
                      refine v_i (y := if t < (w 1063 0 0) then (w 41 0) (t).toNatClampNeg else 0) (by simp only [wS_s, wS_t, wS_a, ne_eq, Nat.reduceEqDiff, not_false_eq_true, L7_1]) ?_
                      refine v_sI C [.int (if t < (w 1063 0 0) then (w 41 0) (t).toNatClampNeg else 0)] 1 (c_X12_isDigit E hM _ _  (if t < (w 1063 0 0) then (w 41 0) (t).toNatClampNeg else 0)  ) m_X12_isDigit x_1494 x_1495 p_X12_isDigit rfl ⟨Nat.le_of_ble_eq_true rfl, Nat.le_of_ble_eq_true rfl⟩ rfl (Nat.le_of_ble_eq_true rfl) dX12_go_202 (fun r6 u6 v6 hp6 => ?_)
                      obtain ⟨hr6, hu6⟩ := hp6
                      subst hr6
                      cases hu6
                      refine v_if_eq C 314 dX12_go_205 (by decide) (fun c_205 => ?_) (fun c_205 => ?_)
                      · exact hL314  (by clear C ih_0 ih_180 hL208 hL314; rw [← k3]; by_cases q : t < (w 1063 0 0); (rw [k4 q]; simp only [wgo]; rw [if_neg (by clear g3 k3 hle hld; grind)]); (rw [show (w 1063 0 0).toNatClampNeg - t.toNatClampNeg = 0 from Nat.sub_eq_zero_of_le ((cl_le h0 k0).mpr (by clear g3 k3 hle; grind))]; rfl))
                      · exact hL208  (by clear C ih_0 ih_180 hL208 hL314; clear g3 k3 hle hld; grind)
                exact hL180 _ 1 p 0 0 (Nat.lt_succ_self _) (by clear C ih_0 hL180; exact ⟨Int32.le_refl _, by clear g3; grind, Or.inr rfl, hG.symm⟩)
              exact hL167 (if 97 ≤ ((w 41 0) p.toNatClampNeg) ∧ ((w 41 0) p.toNatClampNeg) ≤ 122 then 1 else 0) (by clear C ih_0 hL167; rw [hle])
            refine v_iload_n C 0 dX12_go_123 rfl ?_
            refine v_sI C [.int ((w 41 0) p.toNatClampNeg)] 1 (c_X12_isLetter E hM _ _  ((w 41 0) p.toNatClampNeg)  ) m_X12_isLetter x_1491 x_1492 p_X12_isLetter rfl ⟨Nat.le_of_ble_eq_true rfl, Nat.le_of_ble_eq_true rfl⟩ rfl (Nat.le_of_ble_eq_true rfl) dX12_go_124 (fun r7 u7 v7 hp7 => ?_)
            obtain ⟨hr7, hu7⟩ := hp7
            subst hr7
            cases hu7
            refine v_if_ne C 163 dX12_go_127 (by decide) (fun c_127 => ?_) (fun c_127 => ?_)
            · exact hL163  (by clear C ih_0 hL163; clear g3; grind)
            · refine v_iload_n C 0 dX12_go_130 rfl ?_
              refine v_sI C [.int ((w 41 0) p.toNatClampNeg)] 1 (c_X12_isDigit E hM _ _  ((w 41 0) p.toNatClampNeg)  ) m_X12_isDigit x_1494 x_1495 p_X12_isDigit rfl ⟨Nat.le_of_ble_eq_true rfl, Nat.le_of_ble_eq_true rfl⟩ rfl (Nat.le_of_ble_eq_true rfl) dX12_go_131 (fun r8 u8 v8 hp8 => ?_)
              obtain ⟨hr8, hu8⟩ := hp8
              subst hr8
              cases hu8
              refine v_if_ne C 163 dX12_go_134 (by decide) (fun c_134 => ?_) (fun c_134 => ?_)
              · exact hL163  (by clear C ih_0 hL163; clear g3; grind)
              · refine v_aload_n C 1 dX12_go_137 rfl ?_
                refine v_iload_n C 0 dX12_go_138 rfl ?_
                refine v_bipush (v := 59) C dX12_go_139 (by decide) ?_
                refine v_ic_ne C 148 dX12_go_141 (by decide) (fun c_141 => ?_) (fun c_141 => ?_)
                · refine v_iconst (v := 1) C dX12_go_148 (by decide) ?_
                  refine v_pI C 12 0 7 1067 (hM.2 _ (u_12 0 (by decide))) k_12 ty_12 (by decide) rfl ⟨rfl, rfl⟩ x_1249 rfl rfl dX12_go_149 ?_
                  refine v_aload_n C 1 dX12_go_152 rfl ?_
                  refine v_dup C dX12_go_153 rfl ?_
                  refine v_gI C 12 0 5 1065 p (hM.2 _ (u_12 0 (by decide))) k_12 (by decide) rfl rfl x_1247 (by simp only [wS_s, wS_t, wS_a, ne_eq, Nat.reduceEqDiff, not_false_eq_true, L7_1]) dX12_go_154 ?_
                  refine v_iconst (v := 1) C dX12_go_157 (by decide) ?_
                  refine v_iadd C dX12_go_158 ?_
                  refine v_pI C 12 0 5 1065 (hM.2 _ (u_12 0 (by decide))) k_12 ty_12 (by decide) rfl ⟨rfl, rfl⟩ x_1247 rfl rfl dX12_go_159 ?_
                  refine v_tS C 1068 0 (by decide) ?_
                  refine v_tZ C 1071 0 (by decide) ?_
                  refine v_w (w2 := (wS (wS (wS (wS w 1065 0 (fun _ => (p + 1))) 1066 0 (fun _ => p)) 1067 0 (fun _ => 1)) 1068 0 (fun _ => (w 1068 0 0)))) (by simp only [wS_s, wS_t, wS_a, ne_eq, Nat.reduceEqDiff, not_false_eq_true, wS_wS, wS_p, wS_pp, Nat.reduceLT, id_eq, L7_1]) ?_
                  exact v_vret C dX12_go_162 (congr (congrArg Prod.mk (wS_eq (wS_eq (wS_eq (wS_eq rfl (fu_eq (by clear C ih_0 hL163; simp only [goG]; rw [hpk, if_neg (show ¬ ((w 1064 0 0) < (w 1063 0 0) ∧ (w 1064 0 0).toNatClampNeg ≤ p.toNatClampNeg) from fun q => absurd ((cl_le h4 g1).mp q.2) (by have := q.1; clear g3 ; grind)), if_neg (show ¬ (w 1063 0 0).toNatClampNeg ≤ p.toNatClampNeg from fun q => absurd ((cl_le h0 g1).mp q) (by clear g3 ; grind)), if_pos (by clear g3; grind), hnI]; first | done | (dsimp only; first | (rw [if_pos (by assumption)]; done) | (rw [if_neg (by assumption)]; done))))) (fu_eq (by clear C ih_0 hL163; simp only [goG]; rw [hpk, if_neg (show ¬ ((w 1064 0 0) < (w 1063 0 0) ∧ (w 1064 0 0).toNatClampNeg ≤ p.toNatClampNeg) from fun q => absurd ((cl_le h4 g1).mp q.2) (by have := q.1; clear g3 ; grind)), if_neg (show ¬ (w 1063 0 0).toNatClampNeg ≤ p.toNatClampNeg from fun q => absurd ((cl_le h0 g1).mp q) (by clear g3 ; grind)), if_pos (by clear g3; grind), hnI]; first | done | (dsimp only; first | (rw [if_pos (by assumption)]; done) | (rw [if_neg (by assumption)]; done))))) (fu_eq (by clear C ih_0 hL163; simp only [goG]; rw [hpk, if_neg (show ¬ ((w 1064 0 0) < (w 1063 0 0) ∧ (w 1064 0 0).toNatClampNeg ≤ p.toNatClampNeg) from fun q => absurd ((cl_le h4 g1).mp q.2) (by have := q.1; clear g3 ; grind)), if_neg (show ¬ (w 1063 0 0).toNatClampNeg ≤ p.toNatClampNeg from fun q => absurd ((cl_le h0 g1).mp q) (by clear g3 ; grind)), if_pos (by clear g3; grind), hnI]; first | done | (dsimp only; first | (rw [if_pos (by assumption)]; done) | (rw [if_neg (by assumption)]; done))))) (fu_eq (by clear C ih_0 hL163; simp only [goG]; rw [hpk, if_neg (show ¬ ((w 1064 0 0) < (w 1063 0 0) ∧ (w 1064 0 0).toNatClampNeg ≤ p.toNatClampNeg) from fun q => absurd ((cl_le h4 g1).mp q.2) (by have := q.1; clear g3 ; grind)), if_neg (show ¬ (w 1063 0 0).toNatClampNeg ≤ p.toNatClampNeg from fun q => absurd ((cl_le h0 g1).mp q) (by clear g3 ; grind)), if_pos (by clear g3; grind), hnI]; first | done | (dsimp only; first | (rw [if_pos (by assumption)]; done) | (rw [if_neg (by assumption)]; done)))))) (wS_eq rfl (fu_eq (by clear C ih_0 hL163; simp only [goG]; rw [hpk, if_neg (show ¬ ((w 1064 0 0) < (w 1063 0 0) ∧ (w 1064 0 0).toNatClampNeg ≤ p.toNatClampNeg) from fun q => absurd ((cl_le h4 g1).mp q.2) (by have := q.1; clear g3 ; grind)), if_neg (show ¬ (w 1063 0 0).toNatClampNeg ≤ p.toNatClampNeg from fun q => absurd ((cl_le h0 g1).mp q) (by clear g3 ; grind)), if_pos (by clear g3; grind), hnI]; first | done | (dsimp only; first | (rw [if_pos (by assumption)]; done) | (rw [if_neg (by assumption)]; done))))))
                · refine v_iconst (v := 4) C dX12_go_144 (by decide) ?_
                  refine v_goto C 149 dX12_go_145 (by decide) ?_
                  refine v_pI C 12 0 7 1067 (hM.2 _ (u_12 0 (by decide))) k_12 ty_12 (by decide) rfl ⟨rfl, rfl⟩ x_1249 rfl rfl dX12_go_149 ?_
                  refine v_aload_n C 1 dX12_go_152 rfl ?_
                  refine v_dup C dX12_go_153 rfl ?_
                  refine v_gI C 12 0 5 1065 p (hM.2 _ (u_12 0 (by decide))) k_12 (by decide) rfl rfl x_1247 (by simp only [wS_s, wS_t, wS_a, ne_eq, Nat.reduceEqDiff, not_false_eq_true, L7_1]) dX12_go_154 ?_
                  refine v_iconst (v := 1) C dX12_go_157 (by decide) ?_
                  refine v_iadd C dX12_go_158 ?_
                  refine v_pI C 12 0 5 1065 (hM.2 _ (u_12 0 (by decide))) k_12 ty_12 (by decide) rfl ⟨rfl, rfl⟩ x_1247 rfl rfl dX12_go_159 ?_
                  refine v_tS C 1068 0 (by decide) ?_
                  refine v_tZ C 1071 0 (by decide) ?_
                  refine v_w (w2 := (wS (wS (wS (wS w 1065 0 (fun _ => (p + 1))) 1066 0 (fun _ => p)) 1067 0 (fun _ => 4)) 1068 0 (fun _ => (w 1068 0 0)))) (by simp only [wS_s, wS_t, wS_a, ne_eq, Nat.reduceEqDiff, not_false_eq_true, wS_wS, wS_p, wS_pp, Nat.reduceLT, id_eq, L7_1]) ?_
                  exact v_vret C dX12_go_162 (congr (congrArg Prod.mk (wS_eq (wS_eq (wS_eq (wS_eq rfl (fu_eq (by clear C ih_0 hL163; simp only [goG]; rw [hpk, if_neg (show ¬ ((w 1064 0 0) < (w 1063 0 0) ∧ (w 1064 0 0).toNatClampNeg ≤ p.toNatClampNeg) from fun q => absurd ((cl_le h4 g1).mp q.2) (by have := q.1; clear g3 ; grind)), if_neg (show ¬ (w 1063 0 0).toNatClampNeg ≤ p.toNatClampNeg from fun q => absurd ((cl_le h0 g1).mp q) (by clear g3 ; grind)), if_pos (by clear g3; grind), hnI]; first | done | (dsimp only; first | (rw [if_pos (by assumption)]; done) | (rw [if_neg (by assumption)]; done))))) (fu_eq (by clear C ih_0 hL163; simp only [goG]; rw [hpk, if_neg (show ¬ ((w 1064 0 0) < (w 1063 0 0) ∧ (w 1064 0 0).toNatClampNeg ≤ p.toNatClampNeg) from fun q => absurd ((cl_le h4 g1).mp q.2) (by have := q.1; clear g3 ; grind)), if_neg (show ¬ (w 1063 0 0).toNatClampNeg ≤ p.toNatClampNeg from fun q => absurd ((cl_le h0 g1).mp q) (by clear g3 ; grind)), if_pos (by clear g3; grind), hnI]; first | done | (dsimp only; first | (rw [if_pos (by assumption)]; done) | (rw [if_neg (by assumption)]; done))))) (fu_eq (by clear C ih_0 hL163; simp only [goG]; rw [hpk, if_neg (show ¬ ((w 1064 0 0) < (w 1063 0 0) ∧ (w 1064 0 0).toNatClampNeg ≤ p.toNatClampNeg) from fun q => absurd ((cl_le h4 g1).mp q.2) (by have := q.1; clear g3 ; grind)), if_neg (show ¬ (w 1063 0 0).toNatClampNeg ≤ p.toNatClampNeg from fun q => absurd ((cl_le h0 g1).mp q) (by clear g3 ; grind)), if_pos (by clear g3; grind), hnI]; first | done | (dsimp only; first | (rw [if_pos (by assumption)]; done) | (rw [if_neg (by assumption)]; done))))) (fu_eq (by clear C ih_0 hL163; simp only [goG]; rw [hpk, if_neg (show ¬ ((w 1064 0 0) < (w 1063 0 0) ∧ (w 1064 0 0).toNatClampNeg ≤ p.toNatClampNeg) from fun q => absurd ((cl_le h4 g1).mp q.2) (by have := q.1; clear g3 ; grind)), if_neg (show ¬ (w 1063 0 0).toNatClampNeg ≤ p.toNatClampNeg from fun q => absurd ((cl_le h0 g1).mp q) (by clear g3 ; grind)), if_pos (by clear g3; grind), hnI]; first | done | (dsimp only; first | (rw [if_pos (by assumption)]; done) | (rw [if_neg (by assumption)]; done)))))) (wS_eq rfl (fu_eq (by clear C ih_0 hL163; simp only [goG]; rw [hpk, if_neg (show ¬ ((w 1064 0 0) < (w 1063 0 0) ∧ (w 1064 0 0).toNatClampNeg ≤ p.toNatClampNeg) from fun q => absurd ((cl_le h4 g1).mp q.2) (by have := q.1; clear g3 ; grind)), if_neg (show ¬ (w 1063 0 0).toNatClampNeg ≤ p.toNatClampNeg from fun q => absurd ((cl_le h0 g1).mp q) (by clear g3 ; grind)), if_pos (by clear g3; grind), hnI]; first | done | (dsimp only; first | (rw [if_pos (by assumption)]; done) | (rw [if_neg (by assumption)]; done))))))
          · refine v_aload_n C 0 dX12_go_107 rfl ?_
            refine v_iconst (v := 0) C dX12_go_108 (by decide) ?_
            refine v_pI C 12 0 7 1067 (hM.2 _ (u_12 0 (by decide))) k_12 ty_12 (by decide) rfl ⟨rfl, rfl⟩ x_1249 rfl rfl dX12_go_109 ?_
            refine v_tS C 1068 0 (by decide) ?_
            refine v_tZ C 1071 0 (by decide) ?_
            refine v_w (w2 := (wS (wS (wS (wS w 1065 0 (fun _ => p)) 1066 0 (fun _ => p)) 1067 0 (fun _ => 0)) 1068 0 (fun _ => (w 1068 0 0)))) (by simp only [wS_s, wS_t, wS_a, ne_eq, Nat.reduceEqDiff, not_false_eq_true, wS_wS, wS_p, wS_pp, Nat.reduceLT, id_eq, L7_1]) ?_
            exact v_vret C dX12_go_112 (congr (congrArg Prod.mk (wS_eq (wS_eq (wS_eq (wS_eq rfl (fu_eq (by clear C ih_0; simp only [goG]; rw [hpk, if_neg (fun q => absurd ((cl_le h4 g1).mp q.2) (by have := q.1; clear g3; grind)), if_pos ((cl_le h0 g1).mpr (by clear g3; grind)), hnI]))) (fu_eq (by clear C ih_0; simp only [goG]; rw [hpk, if_neg (fun q => absurd ((cl_le h4 g1).mp q.2) (by have := q.1; clear g3; grind)), if_pos ((cl_le h0 g1).mpr (by clear g3; grind)), hnI]))) (fu_eq (by clear C ih_0; simp only [goG]; rw [hpk, if_neg (fun q => absurd ((cl_le h4 g1).mp q.2) (by have := q.1; clear g3; grind)), if_pos ((cl_le h0 g1).mpr (by clear g3; grind)), hnI]))) (fu_eq (by clear C ih_0; simp only [goG]; rw [hpk, if_neg (fun q => absurd ((cl_le h4 g1).mp q.2) (by have := q.1; clear g3; grind)), if_pos ((cl_le h0 g1).mpr (by clear g3; grind)), hnI])))) (wS_eq rfl (fu_eq (by clear C ih_0; simp only [goG]; rw [hpk, if_neg (fun q => absurd ((cl_le h4 g1).mp q.2) (by have := q.1; clear g3; grind)), if_pos ((cl_le h0 g1).mpr (by clear g3; grind)), hnI]))))
        · refine v_aload_n C 0 dX12_go_71 rfl ?_
          refine v_gI C 12 0 6 1066 p (hM.2 _ (u_12 0 (by decide))) k_12 (by decide) rfl rfl x_1248 (by simp only [wS_s, wS_t, wS_a, ne_eq, Nat.reduceEqDiff, not_false_eq_true, L7_1]) dX12_go_72 ?_
          refine v_aload_n C 0 dX12_go_75 rfl ?_
          refine v_gI C 12 0 4 1064 (w 1064 0 0) (hM.2 _ (u_12 0 (by decide))) k_12 (by decide) rfl rfl x_1246 (by simp only [wS_s, wS_t, wS_a, ne_eq, Nat.reduceEqDiff, not_false_eq_true, L7_1]) dX12_go_76 ?_
          refine v_ic_lt C 96 dX12_go_79 (by decide) (fun c_79 => ?_) (fun c_79 => ?_)
          · refine v_aload_n C 0 dX12_go_96 rfl ?_
            refine v_gI C 12 0 5 1065 p (hM.2 _ (u_12 0 (by decide))) k_12 (by decide) rfl rfl x_1247 (by simp only [wS_s, wS_t, wS_a, ne_eq, Nat.reduceEqDiff, not_false_eq_true, L7_1]) dX12_go_97 ?_
            refine v_aload_n C 0 dX12_go_100 rfl ?_
            refine v_gI C 12 0 3 1063 (w 1063 0 0) (hM.2 _ (u_12 0 (by decide))) k_12 (by decide) rfl rfl x_1245 (by simp only [wS_s, wS_t, wS_a, ne_eq, Nat.reduceEqDiff, not_false_eq_true, L7_1]) dX12_go_101 ?_
            refine v_ic_lt C 113 dX12_go_104 (by decide) (fun c_104 => ?_) (fun c_104 => ?_)
            · refine v_aload_n C 0 dX12_go_113 rfl ?_
              refine v_gR C 12 0 1 41 0 (hM.2 _ (u_12 0 (by decide))) k_12 (by decide) x_1243 (fun _ _ _ => rfl) dX12_go_114 ?_
              refine v_aload_n C 0 dX12_go_117 rfl ?_
              refine v_gI C 12 0 5 1065 p (hM.2 _ (u_12 0 (by decide))) k_12 (by decide) rfl rfl x_1247 (by simp only [wS_s, wS_t, wS_a, ne_eq, Nat.reduceEqDiff, not_false_eq_true, L7_1]) dX12_go_118 ?_
              refine v_iald C 41 0 (hM.2 _ (u_41 0 (by decide))) ⟨by decide, rfl, rfl⟩ (by exact v_in (N := 740) (by decide) (by clear g3; grind) (by clear g3; grind)) dX12_go_121 ?_
              refine v_i (y := ((w 41 0) p.toNatClampNeg)) (by simp only [wS_s, wS_t, wS_a, ne_eq, Nat.reduceEqDiff, not_false_eq_true, L7_1]) ?_
              refine v_istore_n (lv2 := [(1, .int ((w 41 0) p.toNatClampNeg)), (0, .ref (E.ad 12 0))]) C dX12_go_122 rfl (by decide) rfl ?_
              have hL163 : (p < (w 1063 0 0) ∧ ((97 ≤ (w 41 0) p.toNatClampNeg ∧ (w 41 0) p.toNatClampNeg ≤ 122) ∨ (48 ≤ (w 41 0) p.toNatClampNeg ∧ (w 41 0) p.toNatClampNeg ≤ 57))) → V K E A 5 (QV K E A (P_X12_go w z)) 163 [(1, .int ((w 41 0) p.toNatClampNeg)), (0, .ref (E.ad 12 0))] [] (wS (wS w 1065 0 (fun _ => p)) 1066 0 (fun _ => p)) z := by
                intro  hinv
                obtain ⟨hps, hld⟩ := hinv
                obtain ⟨le, hle⟩ : ∃ le : Int32, le = (if 97 ≤ (w 41 0) p.toNatClampNeg ∧ (w 41 0) p.toNatClampNeg ≤ 122 then (1 : Int32) else 0) := ⟨_, rfl⟩
                obtain ⟨G, hG⟩ : ∃ G : Nat × Int32 × Int32 × Int64, G = wgo (w 41 0) p.toNatClampNeg le ((w 1063 0 0).toNatClampNeg - p.toNatClampNeg) p.toNatClampNeg 1 0 0 := ⟨_, rfl⟩
                refine v_iload_n C 0 dX12_go_163 rfl ?_
                refine v_sI C [.int ((w 41 0) p.toNatClampNeg)] 1 (c_X12_isLetter E hM _ _  ((w 41 0) p.toNatClampNeg)  ) m_X12_isLetter x_1491 x_1492 p_X12_isLetter rfl ⟨Nat.le_of_ble_eq_true rfl, Nat.le_of_ble_eq_true rfl⟩ rfl (Nat.le_of_ble_eq_true rfl) dX12_go_164 (fun r9 u9 v9 hp9 => ?_)
                obtain ⟨hr9, hu9⟩ := hp9
                subst hr9
                cases hu9
                have hL167 : ∀ (l1 : Int32), (l1 = le) → V K E A 5 (QV K E A (P_X12_go w z)) 167 [(1, .int ((w 41 0) p.toNatClampNeg)), (0, .ref (E.ad 12 0))] [.int l1] (wS (wS w 1065 0 (fun _ => p)) 1066 0 (fun _ => p)) z := by
                  intro l1 hinv
                  have el := hinv
                  refine v_istore_n (lv2 := [(2, .int l1), (1, .int ((w 41 0) p.toNatClampNeg)), (0, .ref (E.ad 12 0))]) C dX12_go_167 rfl (by decide) rfl ?_
                  refine v_iconst (v := 1) C dX12_go_168 (by decide) ?_
                  refine v_istore_n (lv2 := [(3, .int 1), (2, .int l1), (1, .int ((w 41 0) p.toNatClampNeg)), (0, .ref (E.ad 12 0))]) C dX12_go_169 rfl (by decide) rfl ?_
                  refine v_aload_n C 3 dX12_go_170 rfl ?_
                  refine v_lconst (v := 0) C dX12_go_171 (by decide) ?_
                  refine v_pJ C 12 0 11 1071 (hM.2 _ (u_12 0 (by decide))) k_12 ty_12 (by decide) rfl ⟨rfl, rfl⟩ x_1253 rfl rfl dX12_go_172 ?_
                  refine v_aload_n C 3 dX12_go_175 rfl ?_
                  refine v_iconst (v := 0) C dX12_go_176 (by decide) ?_
                  refine v_pI C 12 0 8 1068 (hM.2 _ (u_12 0 (by decide))) k_12 ty_12 (by decide) rfl ⟨rfl, rfl⟩ x_1250 rfl rfl dX12_go_177 ?_
                  have hL180 : ∀ (n_ : Nat) (good : Int32) (t : Int32) (nu : Int32) (wo : Int64), (1000 - t).toNatClampNeg < n_ → (p ≤ t ∧ t ≤ (w 1063 0 0) ∧ (good = 0 ∨ good = 1) ∧ wgo (w 41 0) p.toNatClampNeg le ((w 1063 0 0).toNatClampNeg - t.toNatClampNeg) t.toNatClampNeg good nu wo = G) → V K E A 5 (QV K E A (P_X12_go w z)) 180 [(3, .int good), (2, .int l1), (1, .int ((w 41 0) p.toNatClampNeg)), (0, .ref (E.ad 12 0))] [] (wS (wS (wS w 1065 0 (fun _ => t)) 1066 0 (fun _ => p)) 1068 0 (fun _ => nu)) (wS z 1071 0 (fun _ => wo)) := by
                    intro n_
                    induction n_ with
                    | zero => intro good t nu wo hm_; exact absurd hm_ (Nat.not_lt_zero _)
                    | succ n_ ih_180 =>
                      intro good t nu wo hm_ hinv
                      obtain ⟨k1, k2, kg, k3⟩ := hinv
                      have k0 : 0 ≤ t := by clear g3 k3; grind
                      have k4 : t < (w 1063 0 0) → (w 1063 0 0).toNatClampNeg - t.toNatClampNeg = (w 1063 0 0).toNatClampNeg - (t.toNatClampNeg + 1) + 1 := fun q => by have := (cl_lt k0 h0).mpr q; omega
                      have hL208 : (t < (w 1063 0 0) ∧ ((97 ≤ (w 41 0) t.toNatClampNeg ∧ (w 41 0) t.toNatClampNeg ≤ 122) ∨ (48 ≤ (w 41 0) t.toNatClampNeg ∧ (w 41 0) t.toNatClampNeg ≤ 57))) → V K E A 5 (QV K E A (P_X12_go w z)) 208 [(3, .int good), (2, .int l1), (1, .int ((w 41 0) p.toNatClampNeg)), (0, .ref (E.ad 12 0))] [] (wS (wS (wS w 1065 0 (fun _ => t)) 1066 0 (fun _ => p)) 1068 0 (fun _ => nu)) (wS z 1071 0 (fun _ => wo)) := by
                        intro  hinv
                        obtain ⟨hts, hl2⟩ := hinv
                        refine v_aload_n C 3 dX12_go_208 rfl ?_
                        refine v_gR C 12 0 1 41 0 (hM.2 _ (u_12 0 (by decide))) k_12 (by decide) x_1243 (fun _ _ _ => rfl) dX12_go_209 ?_
                        refine v_aload_n C 3 dX12_go_212 rfl ?_
                        refine v_gI C 12 0 5 1065 t (hM.2 _ (u_12 0 (by decide))) k_12 (by decide) rfl rfl x_1247 (by simp only [wS_s, wS_t, wS_a, ne_eq, Nat.reduceEqDiff, not_false_eq_true, L7_1]) dX12_go_213 ?_
                        refine v_iald C 41 0 (hM.2 _ (u_41 0 (by decide))) ⟨by decide, rfl, rfl⟩ (by exact v_in (N := 740) (by decide) (by clear g3; grind) (by clear g3; grind)) dX12_go_216 ?_
                        refine v_i (y := ((w 41 0) t.toNatClampNeg)) (by simp only [wS_s, wS_t, wS_a, ne_eq, Nat.reduceEqDiff, not_false_eq_true, L7_1]) ?_
                        refine v_istore (lv2 := [(4, .int ((w 41 0) t.toNatClampNeg)), (3, .int good), (2, .int l1), (1, .int ((w 41 0) p.toNatClampNeg)), (0, .ref (E.ad 12 0))]) C dX12_go_217 (by decide) rfl ?_
                        have hL237 : ∀ (g2_ : Int32), (g2_ = (if good ≠ 0 ∧ (if 97 ≤ (w 41 0) t.toNatClampNeg ∧ (w 41 0) t.toNatClampNeg ≤ 122 then (1 : Int32) else 0) = le then 1 else 0)) → V K E A 5 (QV K E A (P_X12_go w z)) 237 [(4, .int ((w 41 0) t.toNatClampNeg)), (3, .int good), (2, .int l1), (1, .int ((w 41 0) p.toNatClampNeg)), (0, .ref (E.ad 12 0))] [.int g2_] (wS (wS (wS w 1065 0 (fun _ => t)) 1066 0 (fun _ => p)) 1068 0 (fun _ => nu)) (wS z 1071 0 (fun _ => wo)) := by
                          intro g2_ hinv
                          have eg := hinv
                          have eg2 : g2_ = 0 ∨ g2_ = 1 := by rw [eg]; exact ite_01
                          refine v_istore_n (lv2 := [(3, .int g2_), (4, .int ((w 41 0) t.toNatClampNeg)), (2, .int l1), (1, .int ((w 41 0) p.toNatClampNeg)), (0, .ref (E.ad 12 0))]) C dX12_go_237 rfl (by decide) rfl ?_
                          have hL271 : ∀ (wo2 : Int64), (wo2 = (if t.toNatClampNeg - p.toNatClampNeg < 5 then 27 * wo + ((w 41 0) t.toNatClampNeg).toInt64 - 96 else wo)) → V K E A 5 (QV K E A (P_X12_go w z)) 271 [(3, .int g2_), (4, .int ((w 41 0) t.toNatClampNeg)), (2, .int l1), (1, .int ((w 41 0) p.toNatClampNeg)), (0, .ref (E.ad 12 0))] [] (wS (wS (wS w 1065 0 (fun _ => t)) 1066 0 (fun _ => p)) 1068 0 (fun _ => nu)) (wS z 1071 0 (fun _ => wo2)) := by
                            intro wo2 hinv
                            have ew2 := hinv
                            have hL301 : ∀ (nu2 : Int32), (nu2 = (if t.toNatClampNeg - p.toNatClampNeg < 3 then 10 * nu + (w 41 0) t.toNatClampNeg - 48 else nu)) → V K E A 5 (QV K E A (P_X12_go w z)) 301 [(3, .int g2_), (4, .int ((w 41 0) t.toNatClampNeg)), (2, .int l1), (1, .int ((w 41 0) p.toNatClampNeg)), (0, .ref (E.ad 12 0))] [] (wS (wS (wS w 1065 0 (fun _ => t)) 1066 0 (fun _ => p)) 1068 0 (fun _ => nu2)) (wS z 1071 0 (fun _ => wo2)) := by
                              intro nu2 hinv
                              have en2 := hinv
                              refine v_aload_n C 4 dX12_go_301 rfl ?_
                              refine v_dup C dX12_go_302 rfl ?_
                              refine v_gI C 12 0 5 1065 t (hM.2 _ (u_12 0 (by decide))) k_12 (by decide) rfl rfl x_1247 (by simp only [wS_s, wS_t, wS_a, ne_eq, Nat.reduceEqDiff, not_false_eq_true, L7_1]) dX12_go_303 ?_
                              refine v_iconst (v := 1) C dX12_go_306 (by decide) ?_
                              refine v_iadd C dX12_go_307 ?_
                              refine v_pI C 12 0 5 1065 (hM.2 _ (u_12 0 (by decide))) k_12 ty_12 (by decide) rfl ⟨rfl, rfl⟩ x_1247 rfl rfl dX12_go_308 ?_
                              refine v_goto C 180 dX12_go_311 (by decide) ?_
                              refine v_w (w2 := (wS (wS (wS w 1065 0 (fun _ => (t + 1))) 1066 0 (fun _ => p)) 1068 0 (fun _ => nu2))) (by simp only [wS_s, wS_t, wS_a, ne_eq, Nat.reduceEqDiff, not_false_eq_true, wS_wS, wS_p, wS_pp, Nat.reduceLT, id_eq, L7_1]) ?_
                              refine v_l [0, 2, 3, 4] rfl ?_
                              exact ih_180 g2_ (t + 1) nu2 wo2 (by clear C ih_0 ih_180; exact Nat.lt_of_lt_of_le (m_up (by clear g3 k3; grind) (by clear g3 k3; grind)) (Nat.le_of_lt_succ hm_)) (by clear C ih_0 ih_180; refine ⟨by clear g3 k3 hle; grind, by clear g3 k3 hle; grind, eg2, ?_⟩; rw [← k3, k4 (by clear g3 k3 hle; grind), cl_succ k0 (by clear g3 k3 hle; grind)]; simp only [wgo]; rw [if_pos hl2, ← eg, ← en2, ← ew2])
                            refine v_aload_n C 4 dX12_go_271 rfl ?_
                            refine v_gI C 12 0 5 1065 t (hM.2 _ (u_12 0 (by decide))) k_12 (by decide) rfl rfl x_1247 (by simp only [wS_s, wS_t, wS_a, ne_eq, Nat.reduceEqDiff, not_false_eq_true, L7_1]) dX12_go_272 ?_
                            refine v_aload_n C 4 dX12_go_275 rfl ?_
                            refine v_gI C 12 0 6 1066 p (hM.2 _ (u_12 0 (by decide))) k_12 (by decide) rfl rfl x_1248 (by simp only [wS_s, wS_t, wS_a, ne_eq, Nat.reduceEqDiff, not_false_eq_true, L7_1]) dX12_go_276 ?_
                            refine v_isub C dX12_go_279 ?_
                            refine v_iconst (v := 3) C dX12_go_280 (by decide) ?_
                            refine v_ic_ge C 301 dX12_go_281 (by decide) (fun c_281 => ?_) (fun c_281 => ?_)
                            · exact hL301 nu (by clear C ih_0 ih_180 hL301; have z := cl_sub (x := t) (y := p) g1 k1; have z2 := cl_lt (x := t - p) (y := 3) (by clear g3 k3 hle hld; grind) (by decide); rw [z, show (3 : Int32).toNatClampNeg = 3 from rfl] at z2; first | (rw [if_pos (z2.mpr (by clear g3 k3 hle hld z2; grind))]; done) | (rw [if_neg (fun q => absurd (z2.mp q) (by clear g3 k3 hle hld z2; grind))]; done))
                            · refine v_aload_n C 4 dX12_go_284 rfl ?_
                              refine v_bipush (v := 10) C dX12_go_285 (by decide) ?_
                              refine v_aload_n C 4 dX12_go_287 rfl ?_
                              refine v_gI C 12 0 8 1068 nu (hM.2 _ (u_12 0 (by decide))) k_12 (by decide) rfl rfl x_1250 (by simp only [wS_s, wS_t, wS_a, ne_eq, Nat.reduceEqDiff, not_false_eq_true, L7_1]) dX12_go_288 ?_
                              refine v_imul C dX12_go_291 ?_
                              refine v_iload C 1 dX12_go_292 rfl ?_
                              refine v_iadd C dX12_go_294 ?_
                              refine v_bipush (v := 48) C dX12_go_295 (by decide) ?_
                              refine v_isub C dX12_go_297 ?_
                              refine v_pI C 12 0 8 1068 (hM.2 _ (u_12 0 (by decide))) k_12 ty_12 (by decide) rfl ⟨rfl, rfl⟩ x_1250 rfl rfl dX12_go_298 ?_
                              refine v_w (w2 := (wS (wS (wS w 1065 0 (fun _ => t)) 1066 0 (fun _ => p)) 1068 0 (fun _ => (((10 * nu) + ((w 41 0) t.toNatClampNeg)) - 48)))) (by simp only [wS_s, wS_t, wS_a, ne_eq, Nat.reduceEqDiff, not_false_eq_true, wS_wS, wS_p, wS_pp, Nat.reduceLT, id_eq, L7_1]) ?_
                              exact hL301 (((10 * nu) + ((w 41 0) t.toNatClampNeg)) - 48) (by clear C ih_0 ih_180 hL301; have z := cl_sub (x := t) (y := p) g1 k1; have z2 := cl_lt (x := t - p) (y := 3) (by clear g3 k3 hle hld; grind) (by decide); rw [z, show (3 : Int32).toNatClampNeg = 3 from rfl] at z2; first | (rw [if_pos (z2.mpr (by clear g3 k3 hle hld z2; grind))]; done) | (rw [if_neg (fun q => absurd (z2.mp q) (by clear g3 k3 hle hld z2; grind))]; done))
                          refine v_aload_n C 4 dX12_go_238 rfl ?_
                          refine v_gI C 12 0 5 1065 t (hM.2 _ (u_12 0 (by decide))) k_12 (by decide) rfl rfl x_1247 (by simp only [wS_s, wS_t, wS_a, ne_eq, Nat.reduceEqDiff, not_false_eq_true, L7_1]) dX12_go_239 ?_
                          refine v_aload_n C 4 dX12_go_242 rfl ?_
                          refine v_gI C 12 0 6 1066 p (hM.2 _ (u_12 0 (by decide))) k_12 (by decide) rfl rfl x_1248 (by simp only [wS_s, wS_t, wS_a, ne_eq, Nat.reduceEqDiff, not_false_eq_true, L7_1]) dX12_go_243 ?_
                          refine v_isub C dX12_go_246 ?_
                          refine v_iconst (v := 5) C dX12_go_247 (by decide) ?_
                          refine v_ic_ge C 271 dX12_go_248 (by decide) (fun c_248 => ?_) (fun c_248 => ?_)
                          · exact hL271 wo (by clear C ih_0 ih_180 hL271; have z := cl_sub (x := t) (y := p) g1 k1; have z2 := cl_lt (x := t - p) (y := 5) (by clear g3 k3 hle hld; grind) (by decide); rw [z, show (5 : Int32).toNatClampNeg = 5 from rfl] at z2; first | (rw [if_pos (z2.mpr (by clear g3 k3 hle hld z2; grind))]; done) | (rw [if_neg (fun q => absurd (z2.mp q) (by clear g3 k3 hle hld z2; grind))]; done))
                          · refine v_aload_n C 4 dX12_go_251 rfl ?_
                            refine v_ldc2 C x_1501 dX12_go_252 ?_
                            refine v_aload_n C 4 dX12_go_255 rfl ?_
                            refine v_gJ C 12 0 11 1071 wo (hM.2 _ (u_12 0 (by decide))) k_12 (by decide) rfl rfl x_1253 (by simp only [wS_s, wS_t, wS_a, ne_eq, Nat.reduceEqDiff, not_false_eq_true, L7_1]) dX12_go_256 ?_
                            refine v_lmul C dX12_go_259 ?_
                            refine v_iload C 1 dX12_go_260 rfl ?_
                            refine v_i2l C dX12_go_262 ?_
                            refine v_ladd C dX12_go_263 ?_
                            refine v_ldc2 C x_1502 dX12_go_264 ?_
                            refine v_lsub C dX12_go_267 ?_
                            refine v_pJ C 12 0 11 1071 (hM.2 _ (u_12 0 (by decide))) k_12 ty_12 (by decide) rfl ⟨rfl, rfl⟩ x_1253 rfl rfl dX12_go_268 ?_
                            refine v_z (z2 := (wS z 1071 0 (fun _ => (((27 * wo) + ((((w 41 0) t.toNatClampNeg) : Int32).toInt64)) - 96)))) (by simp only [wS_s, wS_t, wS_a, ne_eq, Nat.reduceEqDiff, not_false_eq_true, wS_wS, wS_p, wS_pp, Nat.reduceLT, id_eq, L7_1]) ?_
                            exact hL271 (((27 * wo) + ((((w 41 0) t.toNatClampNeg) : Int32).toInt64)) - 96) (by clear C ih_0 ih_180 hL271; have z := cl_sub (x := t) (y := p) g1 k1; have z2 := cl_lt (x := t - p) (y := 5) (by clear g3 k3 hle hld; grind) (by decide); rw [z, show (5 : Int32).toNatClampNeg = 5 from rfl] at z2; first | (rw [if_pos (z2.mpr (by clear g3 k3 hle hld z2; grind))]; done) | (rw [if_neg (fun q => absurd (z2.mp q) (by clear g3 k3 hle hld z2; grind))]; done))
                        refine v_iload_n C 1 dX12_go_219 rfl ?_
                        refine v_if_eq C 236 dX12_go_220 (by decide) (fun c_220 => ?_) (fun c_220 => ?_)
                        · refine v_iconst (v := 0) C dX12_go_236 (by decide) ?_
                          exact hL237 0 (by clear C ih_0 ih_180 hL237; rw [← el]; clear g3 k3 hle hld el; grind)
                        · refine v_iload C 0 dX12_go_223 rfl ?_
                          refine v_sI C [.int ((w 41 0) t.toNatClampNeg)] 1 (c_X12_isLetter E hM _ _  ((w 41 0) t.toNatClampNeg)  ) m_X12_isLetter x_1491 x_1492 p_X12_isLetter rfl ⟨Nat.le_of_ble_eq_true rfl, Nat.le_of_ble_eq_true rfl⟩ rfl (Nat.le_of_ble_eq_true rfl) dX12_go_225 (fun r10 u10 v10 hp10 => ?_)
                          obtain ⟨hr10, hu10⟩ := hp10
                          subst hr10
                          cases hu10
                          refine v_iload_n C 2 dX12_go_228 rfl ?_
                          refine v_ic_ne C 236 dX12_go_229 (by decide) (fun c_229 => ?_) (fun c_229 => ?_)
                          · refine v_iconst (v := 0) C dX12_go_236 (by decide) ?_
                            exact hL237 0 (by clear C ih_0 ih_180 hL237; rw [← el]; clear g3 k3 hle hld el; grind)
                          · refine v_iconst (v := 1) C dX12_go_232 (by decide) ?_
                            refine v_goto C 237 dX12_go_233 (by decide) ?_
                            exact hL237 1 (by clear C ih_0 ih_180 hL237; rw [← el]; clear g3 k3 hle hld el; grind)
                      have hL314 : (G = (t.toNatClampNeg, good, nu, wo)) → V K E A 5 (QV K E A (P_X12_go w z)) 314 [(3, .int good), (2, .int l1), (1, .int ((w 41 0) p.toNatClampNeg)), (0, .ref (E.ad 12 0))] [] (wS (wS (wS w 1065 0 (fun _ => t)) 1066 0 (fun _ => p)) 1068 0 (fun _ => nu)) (wS z 1071 0 (fun _ => wo)) := by
                        intro  hinv
                        have hY := hinv
                        have hL353 : ∀ (kd : Int32), (kd = knd good le (t.toNatClampNeg - p.toNatClampNeg)) → V K E A 5 (QV K E A (P_X12_go w z)) 353 [(3, .int good), (2, .int l1), (1, .int ((w 41 0) p.toNatClampNeg)), (0, .ref (E.ad 12 0))] [.int kd, .ref (E.ad 12 0)] (wS (wS (wS w 1065 0 (fun _ => t)) 1066 0 (fun _ => p)) 1068 0 (fun _ => nu)) (wS z 1071 0 (fun _ => wo)) := by
                          intro kd hinv
                          have ek := hinv
                          refine v_pI C 12 0 7 1067 (hM.2 _ (u_12 0 (by decide))) k_12 ty_12 (by decide) rfl ⟨rfl, rfl⟩ x_1249 rfl rfl dX12_go_353 ?_
                          refine v_w (w2 := (wS (wS (wS (wS w 1065 0 (fun _ => t)) 1066 0 (fun _ => p)) 1067 0 (fun _ => kd)) 1068 0 (fun _ => nu))) (by simp only [wS_s, wS_t, wS_a, ne_eq, Nat.reduceEqDiff, not_false_eq_true, wS_wS, wS_p, wS_pp, Nat.reduceLT, id_eq, L7_1]) ?_
                          exact v_vret C dX12_go_356 (congr (congrArg Prod.mk (wS_eq (wS_eq (wS_eq (wS_eq rfl (fu_eq (by clear C ih_0 ih_180 hL208; simp only [goG]; rw [hpk, if_neg (show ¬ ((w 1064 0 0) < (w 1063 0 0) ∧ (w 1064 0 0).toNatClampNeg ≤ p.toNatClampNeg) from fun q => absurd ((cl_le h4 g1).mp q.2) (by have := q.1; clear g3 k3 hle hG hY; grind)), if_neg (show ¬ (w 1063 0 0).toNatClampNeg ≤ p.toNatClampNeg from fun q => absurd ((cl_le h0 g1).mp q) (by clear g3 k3 hle hG hY; grind)), if_neg (not_not_intro hld), ← hle, ← hG, hY, hnI]; first | done | exact (nI_cl k0).symm | exact ek))) (fu_eq (by clear C ih_0 ih_180 hL208; simp only [goG]; rw [hpk, if_neg (show ¬ ((w 1064 0 0) < (w 1063 0 0) ∧ (w 1064 0 0).toNatClampNeg ≤ p.toNatClampNeg) from fun q => absurd ((cl_le h4 g1).mp q.2) (by have := q.1; clear g3 k3 hle hG hY; grind)), if_neg (show ¬ (w 1063 0 0).toNatClampNeg ≤ p.toNatClampNeg from fun q => absurd ((cl_le h0 g1).mp q) (by clear g3 k3 hle hG hY; grind)), if_neg (not_not_intro hld), ← hle, ← hG, hY, hnI]; first | done | exact (nI_cl k0).symm | exact ek))) (fu_eq (by clear C ih_0 ih_180 hL208; simp only [goG]; rw [hpk, if_neg (show ¬ ((w 1064 0 0) < (w 1063 0 0) ∧ (w 1064 0 0).toNatClampNeg ≤ p.toNatClampNeg) from fun q => absurd ((cl_le h4 g1).mp q.2) (by have := q.1; clear g3 k3 hle hG hY; grind)), if_neg (show ¬ (w 1063 0 0).toNatClampNeg ≤ p.toNatClampNeg from fun q => absurd ((cl_le h0 g1).mp q) (by clear g3 k3 hle hG hY; grind)), if_neg (not_not_intro hld), ← hle, ← hG, hY, hnI]; first | done | exact (nI_cl k0).symm | exact ek))) (fu_eq (by clear C ih_0 ih_180 hL208; simp only [goG]; rw [hpk, if_neg (show ¬ ((w 1064 0 0) < (w 1063 0 0) ∧ (w 1064 0 0).toNatClampNeg ≤ p.toNatClampNeg) from fun q => absurd ((cl_le h4 g1).mp q.2) (by have := q.1; clear g3 k3 hle hG hY; grind)), if_neg (show ¬ (w 1063 0 0).toNatClampNeg ≤ p.toNatClampNeg from fun q => absurd ((cl_le h0 g1).mp q) (by clear g3 k3 hle hG hY; grind)), if_neg (not_not_intro hld), ← hle, ← hG, hY, hnI]; first | done | exact (nI_cl k0).symm | exact ek)))) (wS_eq rfl (fu_eq (by clear C ih_0 ih_180 hL208; simp only [goG]; rw [hpk, if_neg (show ¬ ((w 1064 0 0) < (w 1063 0 0) ∧ (w 1064 0 0).toNatClampNeg ≤ p.toNatClampNeg) from fun q => absurd ((cl_le h4 g1).mp q.2) (by have := q.1; clear g3 k3 hle hG hY; grind)), if_neg (show ¬ (w 1063 0 0).toNatClampNeg ≤ p.toNatClampNeg from fun q => absurd ((cl_le h0 g1).mp q) (by clear g3 k3 hle hG hY; grind)), if_neg (not_not_intro hld), ← hle, ← hG, hY, hnI]; first | done | exact (nI_cl k0).symm | exact ek))))
                        refine v_aload_n C 3 dX12_go_314 rfl ?_
                        refine v_iload_n C 0 dX12_go_315 rfl ?_
                        refine v_if_eq C 340 dX12_go_316 (by decide) (fun c_316 => ?_) (fun c_316 => ?_)
                        · refine v_iconst (v := 1) C dX12_go_340 (by decide) ?_
                          refine v_goto C 353 dX12_go_341 (by decide) ?_
                          exact hL353 1 (by clear C ih_0 ih_180 hL208 hL353; have z := cl_sub (x := t) (y := p) g1 k1; have z5 := cl_lt (x := 5) (y := t - p) (by decide) (by clear g3 k3 hle hld; grind); have z3 := cl_lt (x := 3) (y := t - p) (by decide) (by clear g3 k3 hle hld; grind); rw [z, show (5 : Int32).toNatClampNeg = 5 from rfl] at z5; rw [z, show (3 : Int32).toNatClampNeg = 3 from rfl] at z3; rw [← el]; simp only [knd]; clear g3 k3 hle hld hY el; grind)
                        · refine v_aload_n C 3 dX12_go_319 rfl ?_
                          refine v_gI C 12 0 5 1065 t (hM.2 _ (u_12 0 (by decide))) k_12 (by decide) rfl rfl x_1247 (by simp only [wS_s, wS_t, wS_a, ne_eq, Nat.reduceEqDiff, not_false_eq_true, L7_1]) dX12_go_320 ?_
                          refine v_aload_n C 3 dX12_go_323 rfl ?_
                          refine v_gI C 12 0 6 1066 p (hM.2 _ (u_12 0 (by decide))) k_12 (by decide) rfl rfl x_1248 (by simp only [wS_s, wS_t, wS_a, ne_eq, Nat.reduceEqDiff, not_false_eq_true, L7_1]) dX12_go_324 ?_
                          refine v_isub C dX12_go_327 ?_
                          refine v_iload_n C 1 dX12_go_328 rfl ?_
                          refine v_if_eq C 336 dX12_go_329 (by decide) (fun c_329 => ?_) (fun c_329 => ?_)
                          · refine v_iconst (v := 3) C dX12_go_336 (by decide) ?_
                            refine v_ic_le C 344 dX12_go_337 (by decide) (fun c_337 => ?_) (fun c_337 => ?_)
                            · refine v_iload_n C 1 dX12_go_344 rfl ?_
                              refine v_if_eq C 352 dX12_go_345 (by decide) (fun c_345 => ?_) (fun c_345 => ?_)
                              · refine v_iconst (v := 3) C dX12_go_352 (by decide) ?_
                                exact hL353 3 (by clear C ih_0 ih_180 hL208 hL353; have z := cl_sub (x := t) (y := p) g1 k1; have z5 := cl_lt (x := 5) (y := t - p) (by decide) (by clear g3 k3 hle hld; grind); have z3 := cl_lt (x := 3) (y := t - p) (by decide) (by clear g3 k3 hle hld; grind); rw [z, show (5 : Int32).toNatClampNeg = 5 from rfl] at z5; rw [z, show (3 : Int32).toNatClampNeg = 3 from rfl] at z3; rw [← el]; simp only [knd]; clear g3 k3 hle hld hY el; grind)
                              · refine v_iconst (v := 2) C dX12_go_348 (by decide) ?_
                                refine v_goto C 353 dX12_go_349 (by decide) ?_
                                exact hL353 2 (by clear C ih_0 ih_180 hL208 hL353; have z := cl_sub (x := t) (y := p) g1 k1; have z5 := cl_lt (x := 5) (y := t - p) (by decide) (by clear g3 k3 hle hld; grind); have z3 := cl_lt (x := 3) (y := t - p) (by decide) (by clear g3 k3 hle hld; grind); rw [z, show (5 : Int32).toNatClampNeg = 5 from rfl] at z5; rw [z, show (3 : Int32).toNatClampNeg = 3 from rfl] at z3; rw [← el]; simp only [knd]; clear g3 k3 hle hld hY el; grind)
                            · refine v_iconst (v := 1) C dX12_go_340 (by decide) ?_
                              refine v_goto C 353 dX12_go_341 (by decide) ?_
                              exact hL353 1 (by clear C ih_0 ih_180 hL208 hL353; have z := cl_sub (x := t) (y := p) g1 k1; have z5 := cl_lt (x := 5) (y := t - p) (by decide) (by clear g3 k3 hle hld; grind); have z3 := cl_lt (x := 3) (y := t - p) (by decide) (by clear g3 k3 hle hld; grind); rw [z, show (5 : Int32).toNatClampNeg = 5 from rfl] at z5; rw [z, show (3 : Int32).toNatClampNeg = 3 from rfl] at z3; rw [← el]; simp only [knd]; clear g3 k3 hle hld hY el; grind)
                          · refine v_iconst (v := 5) C dX12_go_332 (by decide) ?_
                            refine v_goto C 337 dX12_go_333 (by decide) ?_
                            refine v_ic_le C 344 dX12_go_337 (by decide) (fun c_337 => ?_) (fun c_337 => ?_)
                            · refine v_iload_n C 1 dX12_go_344 rfl ?_
                              refine v_if_eq C 352 dX12_go_345 (by decide) (fun c_345 => ?_) (fun c_345 => ?_)
                              · refine v_iconst (v := 3) C dX12_go_352 (by decide) ?_
                                exact hL353 3 (by clear C ih_0 ih_180 hL208 hL353; have z := cl_sub (x := t) (y := p) g1 k1; have z5 := cl_lt (x := 5) (y := t - p) (by decide) (by clear g3 k3 hle hld; grind); have z3 := cl_lt (x := 3) (y := t - p) (by decide) (by clear g3 k3 hle hld; grind); rw [z, show (5 : Int32).toNatClampNeg = 5 from rfl] at z5; rw [z, show (3 : Int32).toNatClampNeg = 3 from rfl] at z3; rw [← el]; simp only [knd]; clear g3 k3 hle hld hY el; grind)
                              · refine v_iconst (v := 2) C dX12_go_348 (by decide) ?_
                                refine v_goto C 353 dX12_go_349 (by decide) ?_
                                exact hL353 2 (by clear C ih_0 ih_180 hL208 hL353; have z := cl_sub (x := t) (y := p) g1 k1; have z5 := cl_lt (x := 5) (y := t - p) (by decide) (by clear g3 k3 hle hld; grind); have z3 := cl_lt (x := 3) (y := t - p) (by decide) (by clear g3 k3 hle hld; grind); rw [z, show (5 : Int32).toNatClampNeg = 5 from rfl] at z5; rw [z, show (3 : Int32).toNatClampNeg = 3 from rfl] at z3; rw [← el]; simp only [knd]; clear g3 k3 hle hld hY el; grind)
                            · refine v_iconst (v := 1) C dX12_go_340 (by decide) ?_
                              refine v_goto C 353 dX12_go_341 (by decide) ?_
                              exact hL353 1 (by clear C ih_0 ih_180 hL208 hL353; have z := cl_sub (x := t) (y := p) g1 k1; have z5 := cl_lt (x := 5) (y := t - p) (by decide) (by clear g3 k3 hle hld; grind); have z3 := cl_lt (x := 3) (y := t - p) (by decide) (by clear g3 k3 hle hld; grind); rw [z, show (5 : Int32).toNatClampNeg = 5 from rfl] at z5; rw [z, show (3 : Int32).toNatClampNeg = 3 from rfl] at z3; rw [← el]; simp only [knd]; clear g3 k3 hle hld hY el; grind)
                      refine v_aload_n C 3 dX12_go_180 rfl ?_
                      refine v_aload_n C 3 dX12_go_181 rfl ?_
                      refine v_gI C 12 0 5 1065 t (hM.2 _ (u_12 0 (by decide))) k_12 (by decide) rfl rfl x_1247 (by simp only [wS_s, wS_t, wS_a, ne_eq, Nat.reduceEqDiff, not_false_eq_true, L7_1]) dX12_go_182 ?_
                      refine v_vI C 12 0 [.int t] 1 (c_X12_byteAt E hM _ _  t  (by clear C ih_0 ih_180 hL208 hL314; (try simp only [wS_s, wS_t, wS_a, ne_eq, Nat.reduceEqDiff, not_false_eq_true, L7_1]); clear g3; grind) (by clear C ih_0 ih_180 hL208 hL314; (try simp only [wS_s, wS_t, wS_a, ne_eq, Nat.reduceEqDiff, not_false_eq_true, L7_1]); exact h3)) m_X12_byteAt x_1497 x_1499 x_39 p_X12_byteAt rfl ⟨Nat.le_of_ble_eq_true rfl, Nat.le_of_ble_eq_true rfl⟩ (hM.2 _ (u_12 0 (by decide))) k_12 rfl (Nat.le_of_ble_eq_true rfl) dX12_go_185 (fun r11 u11 v11 hp11 => ?_)
                      obtain ⟨hr11, hu11⟩ := hp11
                      subst hr11
                      cases hu11
                      refine v_i (y := if t < (w 1063 0 0) then (w 41 0) (t).toNatClampNeg else 0) (by simp only [wS_s, wS_t, wS_a, ne_eq, Nat.reduceEqDiff, not_false_eq_true, L7_1]) ?_
                      refine v_sI C [.int (if t < (w 1063 0 0) then (w 41 0) (t).toNatClampNeg else 0)] 1 (c_X12_isLetter E hM _ _  (if t < (w 1063 0 0) then (w 41 0) (t).toNatClampNeg else 0)  ) m_X12_isLetter x_1491 x_1492 p_X12_isLetter rfl ⟨Nat.le_of_ble_eq_true rfl, Nat.le_of_ble_eq_true rfl⟩ rfl (Nat.le_of_ble_eq_true rfl) dX12_go_188 (fun r12 u12 v12 hp12 => ?_)
                      obtain ⟨hr12, hu12⟩ := hp12
                      subst hr12
                      cases hu12
                      refine v_if_ne C 208 dX12_go_191 (by decide) (fun c_191 => ?_) (fun c_191 => ?_)
                      · exact hL208  (by clear C ih_0 ih_180 hL208 hL314; clear g3 k3 hle hld; grind)
                      · refine v_aload_n C 3 dX12_go_194 rfl ?_
                        refine v_aload_n C 3 dX12_go_195 rfl ?_
                        refine v_gI C 12 0 5 1065 t (hM.2 _ (u_12 0 (by decide))) k_12 (by decide) rfl rfl x_1247 (by simp only [wS_s, wS_t, wS_a, ne_eq, Nat.reduceEqDiff, not_false_eq_true, L7_1]) dX12_go_196 ?_
                        refine v_vI C 12 0 [.int t] 1 (c_X12_byteAt E hM _ _  t  (by clear C ih_0 ih_180 hL208 hL314; (try simp only [wS_s, wS_t, wS_a, ne_eq, Nat.reduceEqDiff, not_false_eq_true, L7_1]); clear g3; grind) (by clear C ih_0 ih_180 hL208 hL314; (try simp only [wS_s, wS_t, wS_a, ne_eq, Nat.reduceEqDiff, not_false_eq_true, L7_1]); exact h3)) m_X12_byteAt x_1497 x_1499 x_39 p_X12_byteAt rfl ⟨Nat.le_of_ble_eq_true rfl, Nat.le_of_ble_eq_true rfl⟩ (hM.2 _ (u_12 0 (by decide))) k_12 rfl (Nat.le_of_ble_eq_true rfl) dX12_go_199 (fun r13 u13 v13 hp13 => ?_)
                        obtain ⟨hr13, hu13⟩ := hp13
                        subst hr13
                        cases hu13
                        refine v_i (y := if t < (w 1063 0 0) then (w 41 0) (t).toNatClampNeg else 0) (by simp only [wS_s, wS_t, wS_a, ne_eq, Nat.reduceEqDiff, not_false_eq_true, L7_1]) ?_
                        refine v_sI C [.int (if t < (w 1063 0 0) then (w 41 0) (t).toNatClampNeg else 0)] 1 (c_X12_isDigit E hM _ _  (if t < (w 1063 0 0) then (w 41 0) (t).toNatClampNeg else 0)  ) m_X12_isDigit x_1494 x_1495 p_X12_isDigit rfl ⟨Nat.le_of_ble_eq_true rfl, Nat.le_of_ble_eq_true rfl⟩ rfl (Nat.le_of_ble_eq_true rfl) dX12_go_202 (fun r14 u14 v14 hp14 => ?_)
                        obtain ⟨hr14, hu14⟩ := hp14
                        subst hr14
                        cases hu14
                        refine v_if_eq C 314 dX12_go_205 (by decide) (fun c_205 => ?_) (fun c_205 => ?_)
                        · exact hL314  (by clear C ih_0 ih_180 hL208 hL314; rw [← k3]; by_cases q : t < (w 1063 0 0); (rw [k4 q]; simp only [wgo]; rw [if_neg (by clear g3 k3 hle hld; grind)]); (rw [show (w 1063 0 0).toNatClampNeg - t.toNatClampNeg = 0 from Nat.sub_eq_zero_of_le ((cl_le h0 k0).mpr (by clear g3 k3 hle; grind))]; rfl))
                        · exact hL208  (by clear C ih_0 ih_180 hL208 hL314; clear g3 k3 hle hld; grind)
                  exact hL180 _ 1 p 0 0 (Nat.lt_succ_self _) (by clear C ih_0 hL180; exact ⟨Int32.le_refl _, by clear g3; grind, Or.inr rfl, hG.symm⟩)
                exact hL167 (if 97 ≤ ((w 41 0) p.toNatClampNeg) ∧ ((w 41 0) p.toNatClampNeg) ≤ 122 then 1 else 0) (by clear C ih_0 hL167; rw [hle])
              refine v_iload_n C 0 dX12_go_123 rfl ?_
              refine v_sI C [.int ((w 41 0) p.toNatClampNeg)] 1 (c_X12_isLetter E hM _ _  ((w 41 0) p.toNatClampNeg)  ) m_X12_isLetter x_1491 x_1492 p_X12_isLetter rfl ⟨Nat.le_of_ble_eq_true rfl, Nat.le_of_ble_eq_true rfl⟩ rfl (Nat.le_of_ble_eq_true rfl) dX12_go_124 (fun r15 u15 v15 hp15 => ?_)
              obtain ⟨hr15, hu15⟩ := hp15
              subst hr15
              cases hu15
              refine v_if_ne C 163 dX12_go_127 (by decide) (fun c_127 => ?_) (fun c_127 => ?_)
              · exact hL163  (by clear C ih_0 hL163; clear g3; grind)
              · refine v_iload_n C 0 dX12_go_130 rfl ?_
                refine v_sI C [.int ((w 41 0) p.toNatClampNeg)] 1 (c_X12_isDigit E hM _ _  ((w 41 0) p.toNatClampNeg)  ) m_X12_isDigit x_1494 x_1495 p_X12_isDigit rfl ⟨Nat.le_of_ble_eq_true rfl, Nat.le_of_ble_eq_true rfl⟩ rfl (Nat.le_of_ble_eq_true rfl) dX12_go_131 (fun r16 u16 v16 hp16 => ?_)
                obtain ⟨hr16, hu16⟩ := hp16
                subst hr16
                cases hu16
                refine v_if_ne C 163 dX12_go_134 (by decide) (fun c_134 => ?_) (fun c_134 => ?_)
                · exact hL163  (by clear C ih_0 hL163; clear g3; grind)
                · refine v_aload_n C 1 dX12_go_137 rfl ?_
                  refine v_iload_n C 0 dX12_go_138 rfl ?_
                  refine v_bipush (v := 59) C dX12_go_139 (by decide) ?_
                  refine v_ic_ne C 148 dX12_go_141 (by decide) (fun c_141 => ?_) (fun c_141 => ?_)
                  · refine v_iconst (v := 1) C dX12_go_148 (by decide) ?_
                    refine v_pI C 12 0 7 1067 (hM.2 _ (u_12 0 (by decide))) k_12 ty_12 (by decide) rfl ⟨rfl, rfl⟩ x_1249 rfl rfl dX12_go_149 ?_
                    refine v_aload_n C 1 dX12_go_152 rfl ?_
                    refine v_dup C dX12_go_153 rfl ?_
                    refine v_gI C 12 0 5 1065 p (hM.2 _ (u_12 0 (by decide))) k_12 (by decide) rfl rfl x_1247 (by simp only [wS_s, wS_t, wS_a, ne_eq, Nat.reduceEqDiff, not_false_eq_true, L7_1]) dX12_go_154 ?_
                    refine v_iconst (v := 1) C dX12_go_157 (by decide) ?_
                    refine v_iadd C dX12_go_158 ?_
                    refine v_pI C 12 0 5 1065 (hM.2 _ (u_12 0 (by decide))) k_12 ty_12 (by decide) rfl ⟨rfl, rfl⟩ x_1247 rfl rfl dX12_go_159 ?_
                    refine v_tS C 1068 0 (by decide) ?_
                    refine v_tZ C 1071 0 (by decide) ?_
                    refine v_w (w2 := (wS (wS (wS (wS w 1065 0 (fun _ => (p + 1))) 1066 0 (fun _ => p)) 1067 0 (fun _ => 1)) 1068 0 (fun _ => (w 1068 0 0)))) (by simp only [wS_s, wS_t, wS_a, ne_eq, Nat.reduceEqDiff, not_false_eq_true, wS_wS, wS_p, wS_pp, Nat.reduceLT, id_eq, L7_1]) ?_
                    exact v_vret C dX12_go_162 (congr (congrArg Prod.mk (wS_eq (wS_eq (wS_eq (wS_eq rfl (fu_eq (by clear C ih_0 hL163; simp only [goG]; rw [hpk, if_neg (show ¬ ((w 1064 0 0) < (w 1063 0 0) ∧ (w 1064 0 0).toNatClampNeg ≤ p.toNatClampNeg) from fun q => absurd ((cl_le h4 g1).mp q.2) (by have := q.1; clear g3 ; grind)), if_neg (show ¬ (w 1063 0 0).toNatClampNeg ≤ p.toNatClampNeg from fun q => absurd ((cl_le h0 g1).mp q) (by clear g3 ; grind)), if_pos (by clear g3; grind), hnI]; first | done | (dsimp only; first | (rw [if_pos (by assumption)]; done) | (rw [if_neg (by assumption)]; done))))) (fu_eq (by clear C ih_0 hL163; simp only [goG]; rw [hpk, if_neg (show ¬ ((w 1064 0 0) < (w 1063 0 0) ∧ (w 1064 0 0).toNatClampNeg ≤ p.toNatClampNeg) from fun q => absurd ((cl_le h4 g1).mp q.2) (by have := q.1; clear g3 ; grind)), if_neg (show ¬ (w 1063 0 0).toNatClampNeg ≤ p.toNatClampNeg from fun q => absurd ((cl_le h0 g1).mp q) (by clear g3 ; grind)), if_pos (by clear g3; grind), hnI]; first | done | (dsimp only; first | (rw [if_pos (by assumption)]; done) | (rw [if_neg (by assumption)]; done))))) (fu_eq (by clear C ih_0 hL163; simp only [goG]; rw [hpk, if_neg (show ¬ ((w 1064 0 0) < (w 1063 0 0) ∧ (w 1064 0 0).toNatClampNeg ≤ p.toNatClampNeg) from fun q => absurd ((cl_le h4 g1).mp q.2) (by have := q.1; clear g3 ; grind)), if_neg (show ¬ (w 1063 0 0).toNatClampNeg ≤ p.toNatClampNeg from fun q => absurd ((cl_le h0 g1).mp q) (by clear g3 ; grind)), if_pos (by clear g3; grind), hnI]; first | done | (dsimp only; first | (rw [if_pos (by assumption)]; done) | (rw [if_neg (by assumption)]; done))))) (fu_eq (by clear C ih_0 hL163; simp only [goG]; rw [hpk, if_neg (show ¬ ((w 1064 0 0) < (w 1063 0 0) ∧ (w 1064 0 0).toNatClampNeg ≤ p.toNatClampNeg) from fun q => absurd ((cl_le h4 g1).mp q.2) (by have := q.1; clear g3 ; grind)), if_neg (show ¬ (w 1063 0 0).toNatClampNeg ≤ p.toNatClampNeg from fun q => absurd ((cl_le h0 g1).mp q) (by clear g3 ; grind)), if_pos (by clear g3; grind), hnI]; first | done | (dsimp only; first | (rw [if_pos (by assumption)]; done) | (rw [if_neg (by assumption)]; done)))))) (wS_eq rfl (fu_eq (by clear C ih_0 hL163; simp only [goG]; rw [hpk, if_neg (show ¬ ((w 1064 0 0) < (w 1063 0 0) ∧ (w 1064 0 0).toNatClampNeg ≤ p.toNatClampNeg) from fun q => absurd ((cl_le h4 g1).mp q.2) (by have := q.1; clear g3 ; grind)), if_neg (show ¬ (w 1063 0 0).toNatClampNeg ≤ p.toNatClampNeg from fun q => absurd ((cl_le h0 g1).mp q) (by clear g3 ; grind)), if_pos (by clear g3; grind), hnI]; first | done | (dsimp only; first | (rw [if_pos (by assumption)]; done) | (rw [if_neg (by assumption)]; done))))))
                  · refine v_iconst (v := 4) C dX12_go_144 (by decide) ?_
                    refine v_goto C 149 dX12_go_145 (by decide) ?_
                    refine v_pI C 12 0 7 1067 (hM.2 _ (u_12 0 (by decide))) k_12 ty_12 (by decide) rfl ⟨rfl, rfl⟩ x_1249 rfl rfl dX12_go_149 ?_
                    refine v_aload_n C 1 dX12_go_152 rfl ?_
                    refine v_dup C dX12_go_153 rfl ?_
                    refine v_gI C 12 0 5 1065 p (hM.2 _ (u_12 0 (by decide))) k_12 (by decide) rfl rfl x_1247 (by simp only [wS_s, wS_t, wS_a, ne_eq, Nat.reduceEqDiff, not_false_eq_true, L7_1]) dX12_go_154 ?_
                    refine v_iconst (v := 1) C dX12_go_157 (by decide) ?_
                    refine v_iadd C dX12_go_158 ?_
                    refine v_pI C 12 0 5 1065 (hM.2 _ (u_12 0 (by decide))) k_12 ty_12 (by decide) rfl ⟨rfl, rfl⟩ x_1247 rfl rfl dX12_go_159 ?_
                    refine v_tS C 1068 0 (by decide) ?_
                    refine v_tZ C 1071 0 (by decide) ?_
                    refine v_w (w2 := (wS (wS (wS (wS w 1065 0 (fun _ => (p + 1))) 1066 0 (fun _ => p)) 1067 0 (fun _ => 4)) 1068 0 (fun _ => (w 1068 0 0)))) (by simp only [wS_s, wS_t, wS_a, ne_eq, Nat.reduceEqDiff, not_false_eq_true, wS_wS, wS_p, wS_pp, Nat.reduceLT, id_eq, L7_1]) ?_
                    exact v_vret C dX12_go_162 (congr (congrArg Prod.mk (wS_eq (wS_eq (wS_eq (wS_eq rfl (fu_eq (by clear C ih_0 hL163; simp only [goG]; rw [hpk, if_neg (show ¬ ((w 1064 0 0) < (w 1063 0 0) ∧ (w 1064 0 0).toNatClampNeg ≤ p.toNatClampNeg) from fun q => absurd ((cl_le h4 g1).mp q.2) (by have := q.1; clear g3 ; grind)), if_neg (show ¬ (w 1063 0 0).toNatClampNeg ≤ p.toNatClampNeg from fun q => absurd ((cl_le h0 g1).mp q) (by clear g3 ; grind)), if_pos (by clear g3; grind), hnI]; first | done | (dsimp only; first | (rw [if_pos (by assumption)]; done) | (rw [if_neg (by assumption)]; done))))) (fu_eq (by clear C ih_0 hL163; simp only [goG]; rw [hpk, if_neg (show ¬ ((w 1064 0 0) < (w 1063 0 0) ∧ (w 1064 0 0).toNatClampNeg ≤ p.toNatClampNeg) from fun q => absurd ((cl_le h4 g1).mp q.2) (by have := q.1; clear g3 ; grind)), if_neg (show ¬ (w 1063 0 0).toNatClampNeg ≤ p.toNatClampNeg from fun q => absurd ((cl_le h0 g1).mp q) (by clear g3 ; grind)), if_pos (by clear g3; grind), hnI]; first | done | (dsimp only; first | (rw [if_pos (by assumption)]; done) | (rw [if_neg (by assumption)]; done))))) (fu_eq (by clear C ih_0 hL163; simp only [goG]; rw [hpk, if_neg (show ¬ ((w 1064 0 0) < (w 1063 0 0) ∧ (w 1064 0 0).toNatClampNeg ≤ p.toNatClampNeg) from fun q => absurd ((cl_le h4 g1).mp q.2) (by have := q.1; clear g3 ; grind)), if_neg (show ¬ (w 1063 0 0).toNatClampNeg ≤ p.toNatClampNeg from fun q => absurd ((cl_le h0 g1).mp q) (by clear g3 ; grind)), if_pos (by clear g3; grind), hnI]; first | done | (dsimp only; first | (rw [if_pos (by assumption)]; done) | (rw [if_neg (by assumption)]; done))))) (fu_eq (by clear C ih_0 hL163; simp only [goG]; rw [hpk, if_neg (show ¬ ((w 1064 0 0) < (w 1063 0 0) ∧ (w 1064 0 0).toNatClampNeg ≤ p.toNatClampNeg) from fun q => absurd ((cl_le h4 g1).mp q.2) (by have := q.1; clear g3 ; grind)), if_neg (show ¬ (w 1063 0 0).toNatClampNeg ≤ p.toNatClampNeg from fun q => absurd ((cl_le h0 g1).mp q) (by clear g3 ; grind)), if_pos (by clear g3; grind), hnI]; first | done | (dsimp only; first | (rw [if_pos (by assumption)]; done) | (rw [if_neg (by assumption)]; done)))))) (wS_eq rfl (fu_eq (by clear C ih_0 hL163; simp only [goG]; rw [hpk, if_neg (show ¬ ((w 1064 0 0) < (w 1063 0 0) ∧ (w 1064 0 0).toNatClampNeg ≤ p.toNatClampNeg) from fun q => absurd ((cl_le h4 g1).mp q.2) (by have := q.1; clear g3 ; grind)), if_neg (show ¬ (w 1063 0 0).toNatClampNeg ≤ p.toNatClampNeg from fun q => absurd ((cl_le h0 g1).mp q) (by clear g3 ; grind)), if_pos (by clear g3; grind), hnI]; first | done | (dsimp only; first | (rw [if_pos (by assumption)]; done) | (rw [if_neg (by assumption)]; done))))))
            · refine v_aload_n C 0 dX12_go_107 rfl ?_
              refine v_iconst (v := 0) C dX12_go_108 (by decide) ?_
              refine v_pI C 12 0 7 1067 (hM.2 _ (u_12 0 (by decide))) k_12 ty_12 (by decide) rfl ⟨rfl, rfl⟩ x_1249 rfl rfl dX12_go_109 ?_
              refine v_tS C 1068 0 (by decide) ?_
              refine v_tZ C 1071 0 (by decide) ?_
              refine v_w (w2 := (wS (wS (wS (wS w 1065 0 (fun _ => p)) 1066 0 (fun _ => p)) 1067 0 (fun _ => 0)) 1068 0 (fun _ => (w 1068 0 0)))) (by simp only [wS_s, wS_t, wS_a, ne_eq, Nat.reduceEqDiff, not_false_eq_true, wS_wS, wS_p, wS_pp, Nat.reduceLT, id_eq, L7_1]) ?_
              exact v_vret C dX12_go_112 (congr (congrArg Prod.mk (wS_eq (wS_eq (wS_eq (wS_eq rfl (fu_eq (by clear C ih_0; simp only [goG]; rw [hpk, if_neg (fun q => absurd ((cl_le h4 g1).mp q.2) (by have := q.1; clear g3; grind)), if_pos ((cl_le h0 g1).mpr (by clear g3; grind)), hnI]))) (fu_eq (by clear C ih_0; simp only [goG]; rw [hpk, if_neg (fun q => absurd ((cl_le h4 g1).mp q.2) (by have := q.1; clear g3; grind)), if_pos ((cl_le h0 g1).mpr (by clear g3; grind)), hnI]))) (fu_eq (by clear C ih_0; simp only [goG]; rw [hpk, if_neg (fun q => absurd ((cl_le h4 g1).mp q.2) (by have := q.1; clear g3; grind)), if_pos ((cl_le h0 g1).mpr (by clear g3; grind)), hnI]))) (fu_eq (by clear C ih_0; simp only [goG]; rw [hpk, if_neg (fun q => absurd ((cl_le h4 g1).mp q.2) (by have := q.1; clear g3; grind)), if_pos ((cl_le h0 g1).mpr (by clear g3; grind)), hnI])))) (wS_eq rfl (fu_eq (by clear C ih_0; simp only [goG]; rw [hpk, if_neg (fun q => absurd ((cl_le h4 g1).mp q.2) (by have := q.1; clear g3; grind)), if_pos ((cl_le h0 g1).mpr (by clear g3; grind)), hnI]))))
          · refine v_aload_n C 0 dX12_go_82 rfl ?_
            refine v_aload_n C 0 dX12_go_83 rfl ?_
            refine v_gI C 12 0 4 1064 (w 1064 0 0) (hM.2 _ (u_12 0 (by decide))) k_12 (by decide) rfl rfl x_1246 (by simp only [wS_s, wS_t, wS_a, ne_eq, Nat.reduceEqDiff, not_false_eq_true, L7_1]) dX12_go_84 ?_
            refine v_pI C 12 0 6 1066 (hM.2 _ (u_12 0 (by decide))) k_12 ty_12 (by decide) rfl ⟨rfl, rfl⟩ x_1248 rfl rfl dX12_go_87 ?_
            refine v_aload_n C 0 dX12_go_90 rfl ?_
            refine v_iconst (v := 1) C dX12_go_91 (by decide) ?_
            refine v_pI C 12 0 7 1067 (hM.2 _ (u_12 0 (by decide))) k_12 ty_12 (by decide) rfl ⟨rfl, rfl⟩ x_1249 rfl rfl dX12_go_92 ?_
            refine v_tS C 1068 0 (by decide) ?_
            refine v_tZ C 1071 0 (by decide) ?_
            refine v_w (w2 := (wS (wS (wS (wS w 1065 0 (fun _ => p)) 1066 0 (fun _ => (w 1064 0 0))) 1067 0 (fun _ => 1)) 1068 0 (fun _ => (w 1068 0 0)))) (by simp only [wS_s, wS_t, wS_a, ne_eq, Nat.reduceEqDiff, not_false_eq_true, wS_wS, wS_p, wS_pp, Nat.reduceLT, id_eq, L7_1]) ?_
            exact v_vret C dX12_go_95 (congr (congrArg Prod.mk (wS_eq (wS_eq (wS_eq (wS_eq rfl (fu_eq (by clear C ih_0; simp only [goG]; rw [hpk, if_pos ⟨by clear g3; grind, (cl_le h4 g1).mpr (by clear g3; grind)⟩, hnI]))) (fu_eq (by clear C ih_0; simp only [goG]; rw [hpk, if_pos ⟨by clear g3; grind, (cl_le h4 g1).mpr (by clear g3; grind)⟩, hnI]))) (fu_eq (by clear C ih_0; simp only [goG]; rw [hpk, if_pos ⟨by clear g3; grind, (cl_le h4 g1).mpr (by clear g3; grind)⟩, hnI]))) (fu_eq (by clear C ih_0; simp only [goG]; rw [hpk, if_pos ⟨by clear g3; grind, (cl_le h4 g1).mpr (by clear g3; grind)⟩, hnI])))) (wS_eq rfl (fu_eq (by clear C ih_0; simp only [goG]; rw [hpk, if_pos ⟨by clear g3; grind, (cl_le h4 g1).mpr (by clear g3; grind)⟩, hnI]))))
      refine v_aload_n C 0 dX12_go_0 rfl ?_
      refine v_gI C 12 0 5 1065 p (hM.2 _ (u_12 0 (by decide))) k_12 (by decide) rfl rfl x_1247 (by simp only [wS_s, wS_t, wS_a, ne_eq, Nat.reduceEqDiff, not_false_eq_true, L7_1]) dX12_go_1 ?_
      refine v_aload_n C 0 dX12_go_4 rfl ?_
      refine v_gI C 12 0 3 1063 (w 1063 0 0) (hM.2 _ (u_12 0 (by decide))) k_12 (by decide) rfl rfl x_1245 (by simp only [wS_s, wS_t, wS_a, ne_eq, Nat.reduceEqDiff, not_false_eq_true, L7_1]) dX12_go_5 ?_
      refine v_ic_ge C 52 dX12_go_8 (by decide) (fun c_8 => ?_) (fun c_8 => ?_)
      · exact hL52  (by clear C ih_0 hL52; first | (rw [← g3, show (w 1063 0 0).toNatClampNeg - p.toNatClampNeg = 0 from Nat.sub_eq_zero_of_le ((cl_le h0 g1).mpr (by clear g3; grind))]; rfl) | (rw [← g3, g4 (by clear g3; grind)]; simp only [skR]; rw [if_neg (by clear g3; grind)]))
      · have hL39 : (p < (w 1063 0 0) ∧ skR (w 41 0) ((w 1063 0 0).toNatClampNeg - (p.toNatClampNeg + 1)) (p.toNatClampNeg + 1) = Pk) → V K E A 5 (QV K E A (P_X12_go w z)) 39 [(0, .ref (E.ad 12 0))] [] (wS w 1065 0 (fun _ => p)) z := by
          intro  hinv
          obtain ⟨g6, g5⟩ := hinv
          refine v_aload_n C 0 dX12_go_39 rfl ?_
          refine v_dup C dX12_go_40 rfl ?_
          refine v_gI C 12 0 5 1065 p (hM.2 _ (u_12 0 (by decide))) k_12 (by decide) rfl rfl x_1247 (by simp only [wS_s, wS_t, wS_a, ne_eq, Nat.reduceEqDiff, not_false_eq_true, L7_1]) dX12_go_41 ?_
          refine v_iconst (v := 1) C dX12_go_44 (by decide) ?_
          refine v_iadd C dX12_go_45 ?_
          refine v_pI C 12 0 5 1065 (hM.2 _ (u_12 0 (by decide))) k_12 ty_12 (by decide) rfl ⟨rfl, rfl⟩ x_1247 rfl rfl dX12_go_46 ?_
          refine v_goto C 0 dX12_go_49 (by decide) ?_
          refine v_w (w2 := (wS w 1065 0 (fun _ => (p + 1)))) (by simp only [wS_s, wS_t, wS_a, ne_eq, Nat.reduceEqDiff, not_false_eq_true, wS_wS, wS_p, wS_pp, Nat.reduceLT, id_eq, L7_1]) ?_
          exact ih_0 (p + 1) (by clear C ih_0 hL52; exact Nat.lt_of_lt_of_le (m_up (by clear g3; grind) (by clear g3; grind)) (Nat.le_of_lt_succ hm_)) (by clear C ih_0 hL52; exact ⟨by clear g3 g5; grind, by clear g3 g5; grind, by rw [cl_succ g1 (by clear g3 g5; grind)]; exact g5⟩)
        refine v_aload_n C 0 dX12_go_11 rfl ?_
        refine v_gR C 12 0 1 41 0 (hM.2 _ (u_12 0 (by decide))) k_12 (by decide) x_1243 (fun _ _ _ => rfl) dX12_go_12 ?_
        refine v_aload_n C 0 dX12_go_15 rfl ?_
        refine v_gI C 12 0 5 1065 p (hM.2 _ (u_12 0 (by decide))) k_12 (by decide) rfl rfl x_1247 (by simp only [wS_s, wS_t, wS_a, ne_eq, Nat.reduceEqDiff, not_false_eq_true, L7_1]) dX12_go_16 ?_
        refine v_iald C 41 0 (hM.2 _ (u_41 0 (by decide))) ⟨by decide, rfl, rfl⟩ (by exact v_in (N := 740) (by decide) (by clear g3; grind) (by clear g3; grind)) dX12_go_19 ?_
        refine v_i (y := ((w 41 0) p.toNatClampNeg)) (by simp only [wS_s, wS_t, wS_a, ne_eq, Nat.reduceEqDiff, not_false_eq_true, L7_1]) ?_
        refine v_bipush (v := 32) C dX12_go_20 (by decide) ?_
        refine v_ic_eq C 39 dX12_go_22 (by decide) (fun c_22 => ?_) (fun c_22 => ?_)
        · exact hL39  (by clear C ih_0 hL52 hL39; refine ⟨by clear g3; grind, ?_⟩; rw [← g3, g4 (by clear g3; grind)]; simp only [skR]; rw [if_pos (by clear g3; grind)])
        · refine v_aload_n C 0 dX12_go_25 rfl ?_
          refine v_gR C 12 0 1 41 0 (hM.2 _ (u_12 0 (by decide))) k_12 (by decide) x_1243 (fun _ _ _ => rfl) dX12_go_26 ?_
          refine v_aload_n C 0 dX12_go_29 rfl ?_
          refine v_gI C 12 0 5 1065 p (hM.2 _ (u_12 0 (by decide))) k_12 (by decide) rfl rfl x_1247 (by simp only [wS_s, wS_t, wS_a, ne_eq, Nat.reduceEqDiff, not_false_eq_true, L7_1]) dX12_go_30 ?_
          refine v_iald C 41 0 (hM.2 _ (u_41 0 (by decide))) ⟨by decide, rfl, rfl⟩ (by exact v_in (N := 740) (by decide) (by clear g3; grind) (by clear g3; grind)) dX12_go_33 ?_
          refine v_i (y := ((w 41 0) p.toNatClampNeg)) (by simp only [wS_s, wS_t, wS_a, ne_eq, Nat.reduceEqDiff, not_false_eq_true, L7_1]) ?_
          refine v_bipush (v := 10) C dX12_go_34 (by decide) ?_
          refine v_ic_ne C 52 dX12_go_36 (by decide) (fun c_36 => ?_) (fun c_36 => ?_)
          · exact hL52  (by clear C ih_0 hL52 hL39; first | (rw [← g3, show (w 1063 0 0).toNatClampNeg - p.toNatClampNeg = 0 from Nat.sub_eq_zero_of_le ((cl_le h0 g1).mpr (by clear g3; grind))]; rfl) | (rw [← g3, g4 (by clear g3; grind)]; simp only [skR]; rw [if_neg (by clear g3; grind)]))
          · exact hL39  (by clear C ih_0 hL52 hL39; refine ⟨by clear g3; grind, ?_⟩; rw [← g3, g4 (by clear g3; grind)]; simp only [skR]; rw [if_pos (by clear g3; grind)])
  refine v_tS C 1065 0 (by decide) ?_
  refine v_w (w2 := (wS w 1065 0 (fun _ => (w 1065 0 0)))) (by simp only [wS_s, wS_t, wS_a, ne_eq, Nat.reduceEqDiff, not_false_eq_true, wS_wS, wS_p, wS_pp, Nat.reduceLT, id_eq, L7_1]) ?_
  exact hL0 _ (w 1065 0 0) (Nat.lt_succ_self _) (by clear C hL0; exact ⟨h1, h2, hPk.symm⟩)
