abbrev lvH (E : En) (b : Nat) (i : Int32) : List (Nat × Value) := [(4, .int i), (3, .ref (E.ad 72 0)), (2, .ref (E.ad 12 0)), (1, .ref (E.ad 11 0)), (0, .ref b)]
theorem e_11 : (11, 0) ∈ q_UC := by decide
theorem e_12 : (12, 0) ∈ q_UM := by decide
section LB
variable {K : Pk} {E : En} {A : Nat → Prop} {Q : State → Prop} {kc nc b L : Nat} {xs : Row} {i : Int32} {w : Wi} {z : Wj}
/-- the script's number at i + j -/
theorem k_arg {D : va_G} {tys : List (ClassId × FieldType)} {cc : ByteArray} {nL : Nat} {own : String} {rm : Room} {pc : Nat} {lv : List (Nat × Value)} {st : List Value} {ws : va_W} (C : CB K D tys A cc nL own rm) (hX : SCR K A b L xs) (j0 j4 : Nat) {a : Int} {v : Int32} (d0 : decode cc pc = .ok (.aload_n 0, 1)) (d1 : decode cc (pc + 1) = .ok (.iload 4, 2)) (d2 : decode cc (pc + 1 + 2) = .ok (.iconst a, 1)) (d3 : decode cc (pc + 1 + 2 + 1) = .ok (.iadd, 1)) (d4 : decode cc (pc + 1 + 2 + 1 + 1) = .ok (.iaload, 1)) (h0 : lv[j0]? = some (0, .ref b)) (h4 : lv[j4]? = some (4, .int i)) (hv : Int32.ofInt a = v) (hin : vp_in (i + v) L) (kk : VC K D A nL Q kc nc (pc + 1 + 2 + 1 + 1 + 1) lv (.int (xs (i + v).toNatClampNeg) :: st) ws) : VC K D A nL Q kc nc pc lv st ws :=
  k_aload_n C j0 d0 h0 (k_iload C j4 d1 h4 (k_iconst C d2 hv (k_iadd C d3 (k_sld C hX hin d4 kk))))
def hIn (i : Int32) (L : Nat) : Prop := ∀ j : Int32, 0 ≤ j → j ≤ 5 → vp_in (i + j) L
theorem lg_cmp_0 (x : Int64) : lg_cmp x x = 0 := by
  simp [lg_cmp]
theorem xl_init : Cond.initialized RLw ∈ gtb := x_71
theorem L_feed (C : CB K E.D (q_tys E) A cL_law 7 RLw room_1) (hM : q_okM E) (hX : SCR K A b L xs) (hi : hIn i L) (hrm : kc + 1 ≤ 1141 ∧ nc + 6 ≤ 12322) (h : J w z) (kn : ∀ u v, J u v → VC K E.D A 7 Q (kc + 1) (nc + 6) 1104 (lvH E b i) [] (wc E u v)) : VC K E.D A 7 Q kc nc 160 (lvH E b i) [] (wc E w z) := by
  obtain ⟨P1, c1, h1⟩ := s_feed E hM w z (xs (i + 1).toNatClampNeg) (xs (i + 2).toNatClampNeg) (xs (i + 3).toNatClampNeg) (xs (i + 4).toNatClampNeg) (xs (i + 5).toNatClampNeg) h
  refine k_aload_n C 3 dL_law_160 rfl ?_
  refine k_arg C hX 4 0 (v := 1) dL_law_161 dL_law_162 dL_law_164 dL_law_165 dL_law_166 rfl rfl (by decide) (hi 1 (by decide) (by decide)) ?_
  refine k_arg C hX 4 0 (v := 2) dL_law_167 dL_law_168 dL_law_170 dL_law_171 dL_law_172 rfl rfl (by decide) (hi 2 (by decide) (by decide)) ?_
  refine k_arg C hX 4 0 (v := 3) dL_law_173 dL_law_174 dL_law_176 dL_law_177 dL_law_178 rfl rfl (by decide) (hi 3 (by decide) (by decide)) ?_
  refine k_arg C hX 4 0 (v := 4) dL_law_179 dL_law_180 dL_law_182 dL_law_183 dL_law_184 rfl rfl (by decide) (hi 4 (by decide) (by decide)) ?_
  refine k_arg C hX 4 0 (v := 5) dL_law_185 dL_law_186 dL_law_188 dL_law_189 dL_law_190 rfl rfl (by decide) (hi 5 (by decide) (by decide)) ?_
  refine k_vI C 11 0 [.int (xs (i + 1).toNatClampNeg), .int (xs (i + 2).toNatClampNeg), .int (xs (i + 3).toNatClampNeg), .int (xs (i + 4).toNatClampNeg), .int (xs (i + 5).toNatClampNeg)] 5 c1 m_X11_feed x_540 x_541 x_542 p_X11_feed rfl ⟨Nat.le_of_ble_eq_true rfl, Nat.le_of_ble_eq_true rfl⟩ ⟨(show kc ≤ 1141 by omega), (show nc ≤ 12322 by omega)⟩ (hM.1.2.2 _ e_11) k_11 rfl (Nat.le_of_ble_eq_true rfl) dL_law_191 (fun r1 u1 v1 hp1 => ?_)
  obtain ⟨P2, c2, h2⟩ := h1 r1 u1 v1 hp1
  refine k_aload_n C 2 dL_law_194 rfl ?_
  refine k_arg C hX 4 0 (v := 1) dL_law_195 dL_law_196 dL_law_198 dL_law_199 dL_law_200 rfl rfl (by decide) (hi 1 (by decide) (by decide)) ?_
  refine k_arg C hX 4 0 (v := 2) dL_law_201 dL_law_202 dL_law_204 dL_law_205 dL_law_206 rfl rfl (by decide) (hi 2 (by decide) (by decide)) ?_
  refine k_arg C hX 4 0 (v := 3) dL_law_207 dL_law_208 dL_law_210 dL_law_211 dL_law_212 rfl rfl (by decide) (hi 3 (by decide) (by decide)) ?_
  refine k_arg C hX 4 0 (v := 4) dL_law_213 dL_law_214 dL_law_216 dL_law_217 dL_law_218 rfl rfl (by decide) (hi 4 (by decide) (by decide)) ?_
  refine k_arg C hX 4 0 (v := 5) dL_law_219 dL_law_220 dL_law_222 dL_law_223 dL_law_224 rfl rfl (by decide) (hi 5 (by decide) (by decide)) ?_
  refine k_vI C 12 0 [.int (xs (i + 1).toNatClampNeg), .int (xs (i + 2).toNatClampNeg), .int (xs (i + 3).toNatClampNeg), .int (xs (i + 4).toNatClampNeg), .int (xs (i + 5).toNatClampNeg)] 5 c2 m_X12_feed x_1463 x_1464 x_1465 p_X12_feed rfl ⟨Nat.le_of_ble_eq_true rfl, Nat.le_of_ble_eq_true rfl⟩ ⟨(show kc ≤ 1141 by omega), (show nc ≤ 12322 by omega)⟩ (hM.2 _ e_12) k_12 rfl (Nat.le_of_ble_eq_true rfl) dL_law_225 (fun r2 u2 v2 hp2 => ?_)
  obtain ⟨he, hJ⟩ := h2 r2 u2 v2 hp2
  exact k_ic_eq C 1104 dL_law_228 (by decide) (fun _ => k_widen (Nat.le_succ _) (Nat.le_add_right _ 6) (kn u2 v2 hJ)) (fun c => absurd he.symm c)
theorem L_end (C : CB K E.D (q_tys E) A cL_law 7 RLw room_1) (hM : q_okM E) (hX : SCR K A b L xs) (hi : hIn i L) (hrm : kc + 1 ≤ 1141 ∧ nc + 6 ≤ 12322) (h : J w z) (kn : ∀ u v, J u v → VC K E.D A 7 Q (kc + 1) (nc + 6) 1104 (lvH E b i) [] (wc E u v)) : VC K E.D A 7 Q kc nc 233 (lvH E b i) [] (wc E w z) := by
  obtain ⟨P1, c1, h1⟩ := s_end E hM w z (xs (i + 1).toNatClampNeg) h
  refine k_aload_n C 3 dL_law_233 rfl ?_
  refine k_arg C hX 4 0 (v := 1) dL_law_234 dL_law_235 dL_law_237 dL_law_238 dL_law_239 rfl rfl (by decide) (hi 1 (by decide) (by decide)) ?_
  refine k_vI C 11 0 [.int (xs (i + 1).toNatClampNeg)] 1 c1 m_X11_end x_552 x_553 x_554 p_X11_end rfl ⟨Nat.le_of_ble_eq_true rfl, Nat.le_of_ble_eq_true rfl⟩ ⟨(show kc ≤ 1141 by omega), (show nc ≤ 12322 by omega)⟩ (hM.1.2.2 _ e_11) k_11 rfl (Nat.le_of_ble_eq_true rfl) dL_law_240 (fun r1 u1 v1 hp1 => ?_)
  obtain ⟨P2, c2, h2⟩ := h1 r1 u1 v1 hp1
  refine k_aload_n C 2 dL_law_243 rfl ?_
  refine k_arg C hX 4 0 (v := 1) dL_law_244 dL_law_245 dL_law_247 dL_law_248 dL_law_249 rfl rfl (by decide) (hi 1 (by decide) (by decide)) ?_
  refine k_vI C 12 0 [.int (xs (i + 1).toNatClampNeg)] 1 c2 m_X12_end x_1471 x_1472 x_1473 p_X12_end rfl ⟨Nat.le_of_ble_eq_true rfl, Nat.le_of_ble_eq_true rfl⟩ ⟨(show kc ≤ 1141 by omega), (show nc ≤ 12322 by omega)⟩ (hM.2 _ e_12) k_12 rfl (Nat.le_of_ble_eq_true rfl) dL_law_250 (fun r2 u2 v2 hp2 => ?_)
  obtain ⟨he, hJ⟩ := h2 r2 u2 v2 hp2
  exact k_ic_eq C 1104 dL_law_253 (by decide) (fun _ => k_widen (Nat.le_succ _) (Nat.le_add_right _ 6) (kn u2 v2 hJ)) (fun c => absurd he.symm c)
theorem L_train (C : CB K E.D (q_tys E) A cL_law 7 RLw room_1) (hM : q_okM E) (SO : SOK E A K.s) (hX : SCR K A b L xs) (hi : hIn i L) (hrm : kc + 1 ≤ 1141 ∧ nc + 6 ≤ 12322) (h : J w z) (kn : ∀ u v, J u v → VC K E.D A 7 Q (kc + 1) (nc + 6) 1104 (lvH E b i) [] (wc E u v)) : VC K E.D A 7 Q kc nc 258 (lvH E b i) [] (wc E w z) := by
  obtain ⟨P1, c1, h1⟩ := s_train E hM w z h
  refine k_aload_n C 3 dL_law_258 rfl ?_
  refine k_vsI C SO 11 0 [] 0 c1 m_X11_train x_560 x_561 x_562 p_X11_train rfl ⟨Nat.le_of_ble_eq_true rfl, Nat.le_of_ble_eq_true rfl⟩ ⟨(show kc ≤ 1141 by omega), (show nc ≤ 12322 by omega)⟩ (hM.1.2.2 _ e_11) k_11 rfl (Nat.le_of_ble_eq_true rfl) dL_law_259 (fun r1 u1 v1 hp1 => ?_)
  obtain ⟨P2, c2, h2⟩ := h1 r1 u1 v1 hp1
  refine k_aload_n C 2 dL_law_262 rfl ?_
  refine k_vI C 12 0 [] 0 c2 m_X12_train x_1475 x_1476 x_1477 p_X12_train rfl ⟨Nat.le_of_ble_eq_true rfl, Nat.le_of_ble_eq_true rfl⟩ ⟨(show kc ≤ 1141 by omega), (show nc ≤ 12322 by omega)⟩ (hM.2 _ e_12) k_12 rfl (Nat.le_of_ble_eq_true rfl) dL_law_263 (fun r2 u2 v2 hp2 => ?_)
  obtain ⟨he, hJ⟩ := h2 r2 u2 v2 hp2
  exact k_ic_eq C 1104 dL_law_266 (by decide) (fun _ => k_widen (Nat.le_succ _) (Nat.le_add_right _ 6) (kn u2 v2 hJ)) (fun c => absurd he.symm c)
theorem L_handle (C : CB K E.D (q_tys E) A cL_law 7 RLw room_1) (hM : q_okM E) (SO : SOK E A K.s) (hX : SCR K A b L xs) (hi : hIn i L) (hrm : kc + 1 ≤ 1141 ∧ nc + 6 ≤ 12322) (h : J w z) (kn : ∀ u v, J u v → VC K E.D A 7 Q (kc + 1) (nc + 6) 1104 (lvH E b i) [] (wc E u v)) : VC K E.D A 7 Q kc nc 271 (lvH E b i) [] (wc E w z) := by
  obtain ⟨P1, c1, h1⟩ := s_handle E hM w z h
  refine k_aload_n C 3 dL_law_271 rfl ?_
  refine k_vsI C SO 11 0 [] 0 c1 m_X11_handle x_730 x_731 x_732 p_X11_handle rfl ⟨Nat.le_of_ble_eq_true rfl, Nat.le_of_ble_eq_true rfl⟩ ⟨(show kc ≤ 1141 by omega), (show nc ≤ 12322 by omega)⟩ (hM.1.2.2 _ e_11) k_11 rfl (Nat.le_of_ble_eq_true rfl) dL_law_272 (fun r1 u1 v1 hp1 => ?_)
  obtain ⟨P2, c2, h2⟩ := h1 r1 u1 v1 hp1
  refine k_aload_n C 2 dL_law_275 rfl ?_
  refine k_vI C 12 0 [] 0 c2 m_X12_handle x_1553 x_1554 x_1555 p_X12_handle rfl ⟨Nat.le_of_ble_eq_true rfl, Nat.le_of_ble_eq_true rfl⟩ ⟨(show kc ≤ 1141 by omega), (show nc ≤ 12322 by omega)⟩ (hM.2 _ e_12) k_12 rfl (Nat.le_of_ble_eq_true rfl) dL_law_276 (fun r2 u2 v2 hp2 => ?_)
  obtain ⟨he, hJ⟩ := h2 r2 u2 v2 hp2
  exact k_ic_eq C 1104 dL_law_279 (by decide) (fun _ => k_widen (Nat.le_succ _) (Nat.le_add_right _ 6) (kn u2 v2 hJ)) (fun c => absurd he.symm c)
theorem L_fault (C : CB K E.D (q_tys E) A cL_law 7 RLw room_1) (hM : q_okM E) (hX : SCR K A b L xs) (hi : hIn i L) (hrm : kc + 1 ≤ 1141 ∧ nc + 6 ≤ 12322) (h : J w z) (kn : ∀ u v, J u v → VC K E.D A 7 Q (kc + 1) (nc + 6) 1104 (lvH E b i) [] (wc E u v)) : VC K E.D A 7 Q kc nc 284 (lvH E b i) [] (wc E w z) := by
  obtain ⟨P1, c1, h1⟩ := s_fault E hM w z h
  refine k_aload_n C 3 dL_law_284 rfl ?_
  refine k_vI C 11 0 [] 0 c1 m_X11_fault x_778 x_779 x_780 p_X11_fault rfl ⟨Nat.le_of_ble_eq_true rfl, Nat.le_of_ble_eq_true rfl⟩ ⟨(show kc ≤ 1141 by omega), (show nc ≤ 12322 by omega)⟩ (hM.1.2.2 _ e_11) k_11 rfl (Nat.le_of_ble_eq_true rfl) dL_law_285 (fun r1 u1 v1 hp1 => ?_)
  obtain ⟨P2, c2, h2⟩ := h1 r1 u1 v1 hp1
  refine k_aload_n C 2 dL_law_288 rfl ?_
  refine k_vI C 12 0 [] 0 c2 m_X12_fault x_1561 x_1562 x_1563 p_X12_fault rfl ⟨Nat.le_of_ble_eq_true rfl, Nat.le_of_ble_eq_true rfl⟩ ⟨(show kc ≤ 1141 by omega), (show nc ≤ 12322 by omega)⟩ (hM.2 _ e_12) k_12 rfl (Nat.le_of_ble_eq_true rfl) dL_law_289 (fun r2 u2 v2 hp2 => ?_)
  obtain ⟨he, hJ⟩ := h2 r2 u2 v2 hp2
  exact k_ic_eq C 1104 dL_law_292 (by decide) (fun _ => k_widen (Nat.le_succ _) (Nat.le_add_right _ 6) (kn u2 v2 hJ)) (fun c => absurd he.symm c)
theorem L_car (C : CB K E.D (q_tys E) A cL_law 7 RLw room_1) (hM : q_okM E) (SO : SOK E A K.s) (TX : TXK A K.s) (hl0 : K.l.stackTraces = false) (hO : (72, 0) ∈ E.U) (hX : SCR K A b L xs) (hi : hIn i L) (hrm : kc + 1 ≤ 1141 ∧ nc + 6 ≤ 12322) (h : J w z) (kn : ∀ u v, J u v → VC K E.D A 7 Q (kc + 1) (nc + 6) 1104 (lvH E b i) [] (wc E u v)) : VC K E.D A 7 Q kc nc 297 (lvH E b i) [] (wc E w z) := by
  have ke : w 500 0 0 = w 1074 0 0 := h.2.1.1.1
  have h16 : w 500 0 0 ≤ 16 := by rw [ke]; exact h.2.1.2.1.2
  have h00 : 0 ≤ w 500 0 0 := by rw [ke]; have := h.2.1.2.1.1; clear kn h; grind
  refine k_aload_n C 3 dL_law_297 rfl ?_
  refine k_arg C hX 4 0 (v := 1) dL_law_298 dL_law_299 dL_law_301 dL_law_302 dL_law_303 rfl rfl (by decide) (hi 1 (by decide) (by decide)) ?_
  refine k_arg C hX 4 0 (v := 2) dL_law_304 dL_law_305 dL_law_307 dL_law_308 dL_law_309 rfl rfl (by decide) (hi 2 (by decide) (by decide)) ?_
  refine k_aload_n C 1 dL_law_310 rfl ?_
  refine k_LS (y := yL_car) (bytes := cL_car) (maxL := 5) (hh := [(0, 10, 13, 13)]) C SO TX [.ref (E.ad 11 0), .int (xs (i + 1).toNatClampNeg), .int (xs (i + 2).toNatClampNeg), .ref (E.ad 72 0)] 4 (fun sz => c_L_car E hM.1 hO w z (xs (i + 1).toNatClampNeg) (xs (i + 2).toNatClampNeg) h16 K.l hl0 sz) xk_1153 x_1151 x_1152 xl_init ⟨by decide, by decide, by decide +kernel⟩ rfl ⟨Nat.le_of_ble_eq_true rfl, Nat.le_of_ble_eq_true rfl⟩ rfl rfl ⟨(show kc + 1 ≤ 1141 by omega), (show nc + 6 ≤ 12322 by omega)⟩ rfl (Nat.le_of_ble_eq_true rfl) dL_law_311 (fun r u v hp => ?_)
  obtain ⟨hr01, P2, c2, h2⟩ := s_car E hM w z (xs (i + 1).toNatClampNeg) (xs (i + 2).toNatClampNeg) h r u v hp
  refine k_istore (lv2 := (5, .int r) :: lvH E b i) C dL_law_314 (by decide) rfl ?_
  refine k_aload_n C 3 dL_law_316 rfl ?_
  refine k_arg C hX 5 1 (v := 1) dL_law_317 dL_law_318 dL_law_320 dL_law_321 dL_law_322 rfl rfl (by decide) (hi 1 (by decide) (by decide)) ?_
  refine k_arg C hX 5 1 (v := 2) dL_law_323 dL_law_324 dL_law_326 dL_law_327 dL_law_328 rfl rfl (by decide) (hi 2 (by decide) (by decide)) ?_
  refine k_vI C 12 0 [.int (xs (i + 1).toNatClampNeg), .int (xs (i + 2).toNatClampNeg)] 2 c2 m_X12_car x_1565 x_1566 x_1567 p_X12_car rfl ⟨Nat.le_of_ble_eq_true rfl, Nat.le_of_ble_eq_true rfl⟩ ⟨(show kc + 1 ≤ 1141 by omega), (show nc + 6 ≤ 12322 by omega)⟩ (hM.2 _ e_12) k_12 rfl (Nat.le_of_ble_eq_true rfl) dL_law_329 (fun r2 u2 v2 hp2 => ?_)
  obtain ⟨hJ, he, hout⟩ := h2 r2 u2 v2 hp2
  refine k_istore (lv2 := (6, .int r2) :: (5, .int r) :: lvH E b i) C dL_law_332 (by decide) rfl ?_
  refine k_aload_n C 4 dL_law_334 rfl ?_
  refine k_vI C 12 0 [] 0 (c_X12_thrown E hM u2 v2) m_X12_thrown x_1459 x_1460 x_1461 p_X12_thrown rfl ⟨Nat.le_of_ble_eq_true rfl, Nat.le_of_ble_eq_true rfl⟩ ⟨(show kc + 1 ≤ 1141 by omega), (show nc + 6 ≤ 12322 by omega)⟩ (hM.2 _ e_12) k_12 rfl (Nat.le_of_ble_eq_true rfl) dL_law_335 (fun r3 u3 v3 hp3 => ?_)
  obtain ⟨hr3, hu3⟩ := hp3
  cases hu3
  refine k_iload C 1 dL_law_338 rfl ?_
  refine k_ic_eq C 345 dL_law_340 (by decide) (fun _ => ?_) (fun c => absurd (hr3.trans he) c)
  refine k_iload C 1 dL_law_345 rfl ?_
  have hg : VC K E.D A 7 Q (kc + 1) (nc + 6) 362 ((6, .int r2) :: (5, .int r) :: lvH E b i) [] (wc E u2 v2) := k_goto C 1104 dL_law_362 (by decide) (k_l [2, 3, 4, 5, 6] rfl (kn u2 v2 hJ))
  refine k_if_ne C 362 dL_law_347 (by decide) (fun _ => hg) (fun c0 => ?_)
  refine k_aload_n C 3 dL_law_350 rfl ?_
  refine k_iconst (v := 0) C dL_law_351 (by decide) ?_
  refine k_lald C 72 0 (n := 1) hO ⟨by decide, rfl, rfl⟩ (vp_x (by decide) (by decide) (by decide)) dL_law_352 ?_
  refine k_iload C 0 dL_law_353 rfl ?_
  refine k_i2l C dL_law_355 ?_
  refine k_lcmp C dL_law_356 ?_
  refine k_if_eq C 362 dL_law_357 (by decide) (fun _ => hg) (fun c => absurd ?_ c)
  rw [show v2 72 0 (0 : Int32).toNatClampNeg = r2.toInt64 from hout c0]
  exact lg_cmp_0 _
theorem L_at (C : CB K E.D (q_tys E) A cL_law 7 RLw room_1) (hM : q_okM E) (SO : SOK E A K.s) (TX : TXK A K.s) (hl0 : K.l.stackTraces = false) (hO : (72, 0) ∈ E.U) (hX : SCR K A b L xs) (hi : hIn i L) (hrm : kc + 1 ≤ 1141 ∧ nc + 6 ≤ 12322) (h : J w z) (kn : ∀ u v, J u v → VC K E.D A 7 Q (kc + 1) (nc + 6) 1104 (lvH E b i) [] (wc E u v)) : VC K E.D A 7 Q kc nc 365 (lvH E b i) [] (wc E w z) := by
  have ke : w 500 0 0 = w 1074 0 0 := h.2.1.1.1
  have h16 : w 500 0 0 ≤ 16 := by rw [ke]; exact h.2.1.2.1.2
  have h00 : 0 ≤ w 500 0 0 := by rw [ke]; have := h.2.1.2.1.1; clear kn h; grind
  refine k_aload_n C 3 dL_law_365 rfl ?_
  refine k_arg C hX 4 0 (v := 1) dL_law_366 dL_law_367 dL_law_369 dL_law_370 dL_law_371 rfl rfl (by decide) (hi 1 (by decide) (by decide)) ?_
  refine k_arg C hX 4 0 (v := 2) dL_law_372 dL_law_373 dL_law_375 dL_law_376 dL_law_377 rfl rfl (by decide) (hi 2 (by decide) (by decide)) ?_
  refine k_arg C hX 4 0 (v := 3) dL_law_378 dL_law_379 dL_law_381 dL_law_382 dL_law_383 rfl rfl (by decide) (hi 3 (by decide) (by decide)) ?_
  refine k_aload_n C 1 dL_law_384 rfl ?_
  refine k_LS (y := yL_at) (bytes := cL_at) (maxL := 6) (hh := [(0, 12, 15, 13)]) C SO TX [.ref (E.ad 11 0), .int (xs (i + 1).toNatClampNeg), .int (xs (i + 2).toNatClampNeg), .int (xs (i + 3).toNatClampNeg), .ref (E.ad 72 0)] 5 (fun sz => c_L_at E hM.1 hO w z (xs (i + 1).toNatClampNeg) (xs (i + 2).toNatClampNeg) (xs (i + 3).toNatClampNeg) h00 h16 K.l hl0 sz) xk_1230 x_1228 x_1229 xl_init ⟨by decide, by decide, by decide +kernel⟩ rfl ⟨Nat.le_of_ble_eq_true rfl, Nat.le_of_ble_eq_true rfl⟩ rfl rfl ⟨(show kc + 1 ≤ 1141 by omega), (show nc + 6 ≤ 12322 by omega)⟩ rfl (Nat.le_of_ble_eq_true rfl) dL_law_385 (fun r u v hp => ?_)
  obtain ⟨hr01, P2, c2, h2⟩ := s_at E hM w z (xs (i + 1).toNatClampNeg) (xs (i + 2).toNatClampNeg) (xs (i + 3).toNatClampNeg) h r u v hp
  refine k_istore (lv2 := (5, .int r) :: lvH E b i) C dL_law_388 (by decide) rfl ?_
  refine k_aload_n C 3 dL_law_390 rfl ?_
  refine k_arg C hX 5 1 (v := 1) dL_law_391 dL_law_392 dL_law_394 dL_law_395 dL_law_396 rfl rfl (by decide) (hi 1 (by decide) (by decide)) ?_
  refine k_arg C hX 5 1 (v := 2) dL_law_397 dL_law_398 dL_law_400 dL_law_401 dL_law_402 rfl rfl (by decide) (hi 2 (by decide) (by decide)) ?_
  refine k_arg C hX 5 1 (v := 3) dL_law_403 dL_law_404 dL_law_406 dL_law_407 dL_law_408 rfl rfl (by decide) (hi 3 (by decide) (by decide)) ?_
  refine k_vI C 12 0 [.int (xs (i + 1).toNatClampNeg), .int (xs (i + 2).toNatClampNeg), .int (xs (i + 3).toNatClampNeg)] 3 c2 m_X12_at x_1573 x_1574 x_1575 p_X12_at rfl ⟨Nat.le_of_ble_eq_true rfl, Nat.le_of_ble_eq_true rfl⟩ ⟨(show kc + 1 ≤ 1141 by omega), (show nc + 6 ≤ 12322 by omega)⟩ (hM.2 _ e_12) k_12 rfl (Nat.le_of_ble_eq_true rfl) dL_law_409 (fun r2 u2 v2 hp2 => ?_)
  obtain ⟨hJ, he, hout⟩ := h2 r2 u2 v2 hp2
  refine k_istore (lv2 := (6, .int r2) :: (5, .int r) :: lvH E b i) C dL_law_412 (by decide) rfl ?_
  refine k_aload_n C 4 dL_law_414 rfl ?_
  refine k_vI C 12 0 [] 0 (c_X12_thrown E hM u2 v2) m_X12_thrown x_1459 x_1460 x_1461 p_X12_thrown rfl ⟨Nat.le_of_ble_eq_true rfl, Nat.le_of_ble_eq_true rfl⟩ ⟨(show kc + 1 ≤ 1141 by omega), (show nc + 6 ≤ 12322 by omega)⟩ (hM.2 _ e_12) k_12 rfl (Nat.le_of_ble_eq_true rfl) dL_law_415 (fun r3 u3 v3 hp3 => ?_)
  obtain ⟨hr3, hu3⟩ := hp3
  cases hu3
  refine k_iload C 1 dL_law_418 rfl ?_
  refine k_ic_eq C 425 dL_law_420 (by decide) (fun _ => ?_) (fun c => absurd (hr3.trans he) c)
  refine k_iload C 1 dL_law_425 rfl ?_
  have hg : VC K E.D A 7 Q (kc + 1) (nc + 6) 442 ((6, .int r2) :: (5, .int r) :: lvH E b i) [] (wc E u2 v2) := k_goto C 1104 dL_law_442 (by decide) (k_l [2, 3, 4, 5, 6] rfl (kn u2 v2 hJ))
  refine k_if_ne C 442 dL_law_427 (by decide) (fun _ => hg) (fun c0 => ?_)
  refine k_aload_n C 3 dL_law_430 rfl ?_
  refine k_iconst (v := 0) C dL_law_431 (by decide) ?_
  refine k_lald C 72 0 (n := 1) hO ⟨by decide, rfl, rfl⟩ (vp_x (by decide) (by decide) (by decide)) dL_law_432 ?_
  refine k_iload C 0 dL_law_433 rfl ?_
  refine k_i2l C dL_law_435 ?_
  refine k_lcmp C dL_law_436 ?_
  refine k_if_eq C 442 dL_law_437 (by decide) (fun _ => hg) (fun c => absurd ?_ c)
  rw [show v2 72 0 (0 : Int32).toNatClampNeg = r2.toInt64 from hout c0]
  exact lg_cmp_0 _
theorem L_hears (C : CB K E.D (q_tys E) A cL_law 7 RLw room_1) (hM : q_okM E) (hX : SCR K A b L xs) (hi : hIn i L) (hrm : kc + 1 ≤ 1141 ∧ nc + 6 ≤ 12322) (h : J w z) (kn : ∀ u v, J u v → VC K E.D A 7 Q (kc + 1) (nc + 6) 1104 (lvH E b i) [] (wc E u v)) : VC K E.D A 7 Q kc nc 445 (lvH E b i) [] (wc E w z) := by
  obtain ⟨P1, c1, h1⟩ := s_hears E hM w z (xs (i + 1).toNatClampNeg) h
  refine k_aload_n C 3 dL_law_445 rfl ?_
  refine k_arg C hX 4 0 (v := 1) dL_law_446 dL_law_447 dL_law_449 dL_law_450 dL_law_451 rfl rfl (by decide) (hi 1 (by decide) (by decide)) ?_
  refine k_vI C 11 0 [.int (xs (i + 1).toNatClampNeg)] 1 c1 m_X11_hears x_782 x_783 x_784 p_X11_hears rfl ⟨Nat.le_of_ble_eq_true rfl, Nat.le_of_ble_eq_true rfl⟩ ⟨(show kc ≤ 1141 by omega), (show nc ≤ 12322 by omega)⟩ (hM.1.2.2 _ e_11) k_11 rfl (Nat.le_of_ble_eq_true rfl) dL_law_452 (fun r1 u1 v1 hp1 => ?_)
  obtain ⟨P2, c2, h2⟩ := h1 r1 u1 v1 hp1
  refine k_aload_n C 2 dL_law_455 rfl ?_
  refine k_arg C hX 4 0 (v := 1) dL_law_456 dL_law_457 dL_law_459 dL_law_460 dL_law_461 rfl rfl (by decide) (hi 1 (by decide) (by decide)) ?_
  refine k_vI C 12 0 [.int (xs (i + 1).toNatClampNeg)] 1 c2 m_X12_hears x_1614 x_1615 x_1616 p_X12_hears rfl ⟨Nat.le_of_ble_eq_true rfl, Nat.le_of_ble_eq_true rfl⟩ ⟨(show kc ≤ 1141 by omega), (show nc ≤ 12322 by omega)⟩ (hM.2 _ e_12) k_12 rfl (Nat.le_of_ble_eq_true rfl) dL_law_462 (fun r2 u2 v2 hp2 => ?_)
  obtain ⟨he, hJ⟩ := h2 r2 u2 v2 hp2
  exact k_ic_eq C 1104 dL_law_465 (by decide) (fun _ => k_widen (Nat.le_succ _) (Nat.le_add_right _ 6) (kn u2 v2 hJ)) (fun c => absurd he.symm c)
theorem L_easy (C : CB K E.D (q_tys E) A cL_law 7 RLw room_1) (hM : q_okM E) (hX : SCR K A b L xs) (hi : hIn i L) (hrm : kc + 1 ≤ 1141 ∧ nc + 6 ≤ 12322) (h : J w z) (kn : ∀ u v, J u v → VC K E.D A 7 Q (kc + 1) (nc + 6) 1104 (lvH E b i) [] (wc E u v)) : VC K E.D A 7 Q kc nc 470 (lvH E b i) [] (wc E w z) := by
  obtain ⟨P1, c1, h1⟩ := s_easy E hM w z h
  refine k_aload_n C 3 dL_law_470 rfl ?_
  refine k_vI C 11 0 [] 0 c1 m_X11_easy x_830 x_831 x_832 p_X11_easy rfl ⟨Nat.le_of_ble_eq_true rfl, Nat.le_of_ble_eq_true rfl⟩ ⟨(show kc ≤ 1141 by omega), (show nc ≤ 12322 by omega)⟩ (hM.1.2.2 _ e_11) k_11 rfl (Nat.le_of_ble_eq_true rfl) dL_law_471 (fun r1 u1 v1 hp1 => ?_)
  obtain ⟨P2, c2, h2⟩ := h1 r1 u1 v1 hp1
  refine k_aload_n C 2 dL_law_474 rfl ?_
  refine k_vI C 12 0 [] 0 c2 m_X12_easy x_1618 x_1619 x_1620 p_X12_easy rfl ⟨Nat.le_of_ble_eq_true rfl, Nat.le_of_ble_eq_true rfl⟩ ⟨(show kc ≤ 1141 by omega), (show nc ≤ 12322 by omega)⟩ (hM.2 _ e_12) k_12 rfl (Nat.le_of_ble_eq_true rfl) dL_law_475 (fun r2 u2 v2 hp2 => ?_)
  obtain ⟨he, hJ⟩ := h2 r2 u2 v2 hp2
  exact k_ic_eq C 1104 dL_law_478 (by decide) (fun _ => k_widen (Nat.le_succ _) (Nat.le_add_right _ 6) (kn u2 v2 hJ)) (fun c => absurd he.symm c)
theorem L_run (C : CB K E.D (q_tys E) A cL_law 7 RLw room_1) (hM : q_okM E) (hX : SCR K A b L xs) (hi : hIn i L) (hrm : kc + 1 ≤ 1141 ∧ nc + 6 ≤ 12322) (h : J w z) (kn : ∀ u v, J u v → VC K E.D A 7 Q (kc + 1) (nc + 6) 1104 (lvH E b i) [] (wc E u v)) : VC K E.D A 7 Q kc nc 483 (lvH E b i) [] (wc E w z) := by
  obtain ⟨P1, c1, h1⟩ := s_run E hM w z (xs (i + 1).toNatClampNeg) (xs (i + 2).toNatClampNeg) (xs (i + 3).toNatClampNeg) h
  refine k_aload_n C 3 dL_law_483 rfl ?_
  refine k_arg C hX 4 0 (v := 1) dL_law_484 dL_law_485 dL_law_487 dL_law_488 dL_law_489 rfl rfl (by decide) (hi 1 (by decide) (by decide)) ?_
  refine k_arg C hX 4 0 (v := 2) dL_law_490 dL_law_491 dL_law_493 dL_law_494 dL_law_495 rfl rfl (by decide) (hi 2 (by decide) (by decide)) ?_
  refine k_arg C hX 4 0 (v := 3) dL_law_496 dL_law_497 dL_law_499 dL_law_500 dL_law_501 rfl rfl (by decide) (hi 3 (by decide) (by decide)) ?_
  refine k_vI C 11 0 [.int (xs (i + 1).toNatClampNeg), .int (xs (i + 2).toNatClampNeg), .int (xs (i + 3).toNatClampNeg)] 3 c1 m_X11_run x_838 x_839 x_840 p_X11_run rfl ⟨Nat.le_of_ble_eq_true rfl, Nat.le_of_ble_eq_true rfl⟩ ⟨(show kc ≤ 1141 by omega), (show nc ≤ 12322 by omega)⟩ (hM.1.2.2 _ e_11) k_11 rfl (Nat.le_of_ble_eq_true rfl) dL_law_502 (fun r1 u1 v1 hp1 => ?_)
  obtain ⟨P2, c2, h2⟩ := h1 r1 u1 v1 hp1
  refine k_aload_n C 2 dL_law_505 rfl ?_
  refine k_arg C hX 4 0 (v := 1) dL_law_506 dL_law_507 dL_law_509 dL_law_510 dL_law_511 rfl rfl (by decide) (hi 1 (by decide) (by decide)) ?_
  refine k_arg C hX 4 0 (v := 2) dL_law_512 dL_law_513 dL_law_515 dL_law_516 dL_law_517 rfl rfl (by decide) (hi 2 (by decide) (by decide)) ?_
  refine k_arg C hX 4 0 (v := 3) dL_law_518 dL_law_519 dL_law_521 dL_law_522 dL_law_523 rfl rfl (by decide) (hi 3 (by decide) (by decide)) ?_
  refine k_vI C 12 0 [.int (xs (i + 1).toNatClampNeg), .int (xs (i + 2).toNatClampNeg), .int (xs (i + 3).toNatClampNeg)] 3 c2 m_X12_run x_1622 x_1623 x_1624 p_X12_run rfl ⟨Nat.le_of_ble_eq_true rfl, Nat.le_of_ble_eq_true rfl⟩ ⟨(show kc ≤ 1141 by omega), (show nc ≤ 12322 by omega)⟩ (hM.2 _ e_12) k_12 rfl (Nat.le_of_ble_eq_true rfl) dL_law_524 (fun r2 u2 v2 hp2 => ?_)
  obtain ⟨he, hJ⟩ := h2 r2 u2 v2 hp2
  exact k_ic_eq C 1104 dL_law_527 (by decide) (fun _ => k_widen (Nat.le_succ _) (Nat.le_add_right _ 6) (kn u2 v2 hJ)) (fun c => absurd he.symm c)
theorem L_ran (C : CB K E.D (q_tys E) A cL_law 7 RLw room_1) (hM : q_okM E) (hX : SCR K A b L xs) (hi : hIn i L) (hrm : kc + 1 ≤ 1141 ∧ nc + 6 ≤ 12322) (h : J w z) (kn : ∀ u v, J u v → VC K E.D A 7 Q (kc + 1) (nc + 6) 1104 (lvH E b i) [] (wc E u v)) : VC K E.D A 7 Q kc nc 532 (lvH E b i) [] (wc E w z) := by
  obtain ⟨P1, c1, h1⟩ := s_ran E hM w z (xs (i + 1).toNatClampNeg) h
  refine k_aload_n C 3 dL_law_532 rfl ?_
  refine k_arg C hX 4 0 (v := 1) dL_law_533 dL_law_534 dL_law_536 dL_law_537 dL_law_538 rfl rfl (by decide) (hi 1 (by decide) (by decide)) ?_
  refine k_vI C 11 0 [.int (xs (i + 1).toNatClampNeg)] 1 c1 m_X11_ran x_876 x_877 x_878 p_X11_ran rfl ⟨Nat.le_of_ble_eq_true rfl, Nat.le_of_ble_eq_true rfl⟩ ⟨(show kc ≤ 1141 by omega), (show nc ≤ 12322 by omega)⟩ (hM.1.2.2 _ e_11) k_11 rfl (Nat.le_of_ble_eq_true rfl) dL_law_539 (fun r1 u1 v1 hp1 => ?_)
  obtain ⟨P2, c2, h2⟩ := h1 r1 u1 v1 hp1
  refine k_aload_n C 2 dL_law_542 rfl ?_
  refine k_arg C hX 4 0 (v := 1) dL_law_543 dL_law_544 dL_law_546 dL_law_547 dL_law_548 rfl rfl (by decide) (hi 1 (by decide) (by decide)) ?_
  refine k_vI C 12 0 [.int (xs (i + 1).toNatClampNeg)] 1 c2 m_X12_ran x_1633 x_1634 x_1635 p_X12_ran rfl ⟨Nat.le_of_ble_eq_true rfl, Nat.le_of_ble_eq_true rfl⟩ ⟨(show kc ≤ 1141 by omega), (show nc ≤ 12322 by omega)⟩ (hM.2 _ e_12) k_12 rfl (Nat.le_of_ble_eq_true rfl) dL_law_549 (fun r2 u2 v2 hp2 => ?_)
  obtain ⟨he, hJ⟩ := h2 r2 u2 v2 hp2
  exact k_ic_eq C 1104 dL_law_552 (by decide) (fun _ => k_widen (Nat.le_succ _) (Nat.le_add_right _ 6) (kn u2 v2 hJ)) (fun c => absurd he.symm c)
theorem L_help (C : CB K E.D (q_tys E) A cL_law 7 RLw room_1) (hM : q_okM E) (hX : SCR K A b L xs) (hi : hIn i L) (hrm : kc + 1 ≤ 1141 ∧ nc + 6 ≤ 12322) (h : J w z) (kn : ∀ u v, J u v → VC K E.D A 7 Q (kc + 1) (nc + 6) 1104 (lvH E b i) [] (wc E u v)) : VC K E.D A 7 Q kc nc 557 (lvH E b i) [] (wc E w z) := by
  obtain ⟨P1, c1, h1⟩ := s_help E hM w z (xs (i + 1).toNatClampNeg) (xs (i + 2).toNatClampNeg) (xs (i + 3).toNatClampNeg) (xs (i + 4).toNatClampNeg) h
  refine k_aload_n C 3 dL_law_557 rfl ?_
  refine k_arg C hX 4 0 (v := 1) dL_law_558 dL_law_559 dL_law_561 dL_law_562 dL_law_563 rfl rfl (by decide) (hi 1 (by decide) (by decide)) ?_
  refine k_arg C hX 4 0 (v := 2) dL_law_564 dL_law_565 dL_law_567 dL_law_568 dL_law_569 rfl rfl (by decide) (hi 2 (by decide) (by decide)) ?_
  refine k_arg C hX 4 0 (v := 3) dL_law_570 dL_law_571 dL_law_573 dL_law_574 dL_law_575 rfl rfl (by decide) (hi 3 (by decide) (by decide)) ?_
  refine k_arg C hX 4 0 (v := 4) dL_law_576 dL_law_577 dL_law_579 dL_law_580 dL_law_581 rfl rfl (by decide) (hi 4 (by decide) (by decide)) ?_
  refine k_vI C 11 0 [.int (xs (i + 1).toNatClampNeg), .int (xs (i + 2).toNatClampNeg), .int (xs (i + 3).toNatClampNeg), .int (xs (i + 4).toNatClampNeg)] 4 c1 m_X11_help x_880 x_881 x_882 p_X11_help rfl ⟨Nat.le_of_ble_eq_true rfl, Nat.le_of_ble_eq_true rfl⟩ ⟨(show kc ≤ 1141 by omega), (show nc ≤ 12322 by omega)⟩ (hM.1.2.2 _ e_11) k_11 rfl (Nat.le_of_ble_eq_true rfl) dL_law_582 (fun r1 u1 v1 hp1 => ?_)
  obtain ⟨P2, c2, h2⟩ := h1 r1 u1 v1 hp1
  refine k_aload_n C 2 dL_law_585 rfl ?_
  refine k_arg C hX 4 0 (v := 1) dL_law_586 dL_law_587 dL_law_589 dL_law_590 dL_law_591 rfl rfl (by decide) (hi 1 (by decide) (by decide)) ?_
  refine k_arg C hX 4 0 (v := 2) dL_law_592 dL_law_593 dL_law_595 dL_law_596 dL_law_597 rfl rfl (by decide) (hi 2 (by decide) (by decide)) ?_
  refine k_arg C hX 4 0 (v := 3) dL_law_598 dL_law_599 dL_law_601 dL_law_602 dL_law_603 rfl rfl (by decide) (hi 3 (by decide) (by decide)) ?_
  refine k_arg C hX 4 0 (v := 4) dL_law_604 dL_law_605 dL_law_607 dL_law_608 dL_law_609 rfl rfl (by decide) (hi 4 (by decide) (by decide)) ?_
  refine k_vI C 12 0 [.int (xs (i + 1).toNatClampNeg), .int (xs (i + 2).toNatClampNeg), .int (xs (i + 3).toNatClampNeg), .int (xs (i + 4).toNatClampNeg)] 4 c2 m_X12_help x_1637 x_1638 x_1639 p_X12_help rfl ⟨Nat.le_of_ble_eq_true rfl, Nat.le_of_ble_eq_true rfl⟩ ⟨(show kc ≤ 1141 by omega), (show nc ≤ 12322 by omega)⟩ (hM.2 _ e_12) k_12 rfl (Nat.le_of_ble_eq_true rfl) dL_law_610 (fun r2 u2 v2 hp2 => ?_)
  obtain ⟨he, hJ⟩ := h2 r2 u2 v2 hp2
  exact k_ic_eq C 1104 dL_law_613 (by decide) (fun _ => k_widen (Nat.le_succ _) (Nat.le_add_right _ 6) (kn u2 v2 hJ)) (fun c => absurd he.symm c)
theorem L_parted (C : CB K E.D (q_tys E) A cL_law 7 RLw room_1) (hM : q_okM E) (hX : SCR K A b L xs) (hi : hIn i L) (hrm : kc + 1 ≤ 1141 ∧ nc + 6 ≤ 12322) (h : J w z) (kn : ∀ u v, J u v → VC K E.D A 7 Q (kc + 1) (nc + 6) 1104 (lvH E b i) [] (wc E u v)) : VC K E.D A 7 Q kc nc 618 (lvH E b i) [] (wc E w z) := by
  obtain ⟨P1, c1, h1⟩ := s_parted E hM w z (xs (i + 1).toNatClampNeg) (xs (i + 2).toNatClampNeg) (xs (i + 3).toNatClampNeg) (xs (i + 4).toNatClampNeg) (xs (i + 5).toNatClampNeg) h
  refine k_aload_n C 3 dL_law_618 rfl ?_
  refine k_arg C hX 4 0 (v := 1) dL_law_619 dL_law_620 dL_law_622 dL_law_623 dL_law_624 rfl rfl (by decide) (hi 1 (by decide) (by decide)) ?_
  refine k_arg C hX 4 0 (v := 2) dL_law_625 dL_law_626 dL_law_628 dL_law_629 dL_law_630 rfl rfl (by decide) (hi 2 (by decide) (by decide)) ?_
  refine k_arg C hX 4 0 (v := 3) dL_law_631 dL_law_632 dL_law_634 dL_law_635 dL_law_636 rfl rfl (by decide) (hi 3 (by decide) (by decide)) ?_
  refine k_arg C hX 4 0 (v := 4) dL_law_637 dL_law_638 dL_law_640 dL_law_641 dL_law_642 rfl rfl (by decide) (hi 4 (by decide) (by decide)) ?_
  refine k_arg C hX 4 0 (v := 5) dL_law_643 dL_law_644 dL_law_646 dL_law_647 dL_law_648 rfl rfl (by decide) (hi 5 (by decide) (by decide)) ?_
  refine k_vI C 11 0 [.int (xs (i + 1).toNatClampNeg), .int (xs (i + 2).toNatClampNeg), .int (xs (i + 3).toNatClampNeg), .int (xs (i + 4).toNatClampNeg), .int (xs (i + 5).toNatClampNeg)] 5 c1 m_X11_parted x_911 x_912 x_913 p_X11_parted rfl ⟨Nat.le_of_ble_eq_true rfl, Nat.le_of_ble_eq_true rfl⟩ ⟨(show kc ≤ 1141 by omega), (show nc ≤ 12322 by omega)⟩ (hM.1.2.2 _ e_11) k_11 rfl (Nat.le_of_ble_eq_true rfl) dL_law_649 (fun r1 u1 v1 hp1 => ?_)
  obtain ⟨P2, c2, h2⟩ := h1 r1 u1 v1 hp1
  refine k_aload_n C 2 dL_law_652 rfl ?_
  refine k_arg C hX 4 0 (v := 1) dL_law_653 dL_law_654 dL_law_656 dL_law_657 dL_law_658 rfl rfl (by decide) (hi 1 (by decide) (by decide)) ?_
  refine k_arg C hX 4 0 (v := 2) dL_law_659 dL_law_660 dL_law_662 dL_law_663 dL_law_664 rfl rfl (by decide) (hi 2 (by decide) (by decide)) ?_
  refine k_arg C hX 4 0 (v := 3) dL_law_665 dL_law_666 dL_law_668 dL_law_669 dL_law_670 rfl rfl (by decide) (hi 3 (by decide) (by decide)) ?_
  refine k_arg C hX 4 0 (v := 4) dL_law_671 dL_law_672 dL_law_674 dL_law_675 dL_law_676 rfl rfl (by decide) (hi 4 (by decide) (by decide)) ?_
  refine k_arg C hX 4 0 (v := 5) dL_law_677 dL_law_678 dL_law_680 dL_law_681 dL_law_682 rfl rfl (by decide) (hi 5 (by decide) (by decide)) ?_
  refine k_vI C 12 0 [.int (xs (i + 1).toNatClampNeg), .int (xs (i + 2).toNatClampNeg), .int (xs (i + 3).toNatClampNeg), .int (xs (i + 4).toNatClampNeg), .int (xs (i + 5).toNatClampNeg)] 5 c2 m_X12_parted x_1644 x_1645 x_1646 p_X12_parted rfl ⟨Nat.le_of_ble_eq_true rfl, Nat.le_of_ble_eq_true rfl⟩ ⟨(show kc ≤ 1141 by omega), (show nc ≤ 12322 by omega)⟩ (hM.2 _ e_12) k_12 rfl (Nat.le_of_ble_eq_true rfl) dL_law_683 (fun r2 u2 v2 hp2 => ?_)
  obtain ⟨he, hJ⟩ := h2 r2 u2 v2 hp2
  exact k_ic_eq C 1104 dL_law_686 (by decide) (fun _ => k_widen (Nat.le_succ _) (Nat.le_add_right _ 6) (kn u2 v2 hJ)) (fun c => absurd he.symm c)
theorem L_order (C : CB K E.D (q_tys E) A cL_law 7 RLw room_1) (hM : q_okM E) (hX : SCR K A b L xs) (hi : hIn i L) (hrm : kc + 1 ≤ 1141 ∧ nc + 6 ≤ 12322) (h : J w z) (kn : ∀ u v, J u v → VC K E.D A 7 Q (kc + 1) (nc + 6) 1104 (lvH E b i) [] (wc E u v)) : VC K E.D A 7 Q kc nc 691 (lvH E b i) [] (wc E w z) := by
  obtain ⟨P1, c1, h1⟩ := s_order E hM w z (xs (i + 1).toNatClampNeg) (xs (i + 2).toNatClampNeg) (xs (i + 3).toNatClampNeg) (xs (i + 4).toNatClampNeg) h
  refine k_aload_n C 3 dL_law_691 rfl ?_
  refine k_arg C hX 4 0 (v := 1) dL_law_692 dL_law_693 dL_law_695 dL_law_696 dL_law_697 rfl rfl (by decide) (hi 1 (by decide) (by decide)) ?_
  refine k_arg C hX 4 0 (v := 2) dL_law_698 dL_law_699 dL_law_701 dL_law_702 dL_law_703 rfl rfl (by decide) (hi 2 (by decide) (by decide)) ?_
  refine k_arg C hX 4 0 (v := 3) dL_law_704 dL_law_705 dL_law_707 dL_law_708 dL_law_709 rfl rfl (by decide) (hi 3 (by decide) (by decide)) ?_
  refine k_arg C hX 4 0 (v := 4) dL_law_710 dL_law_711 dL_law_713 dL_law_714 dL_law_715 rfl rfl (by decide) (hi 4 (by decide) (by decide)) ?_
  refine k_vI C 11 0 [.int (xs (i + 1).toNatClampNeg), .int (xs (i + 2).toNatClampNeg), .int (xs (i + 3).toNatClampNeg), .int (xs (i + 4).toNatClampNeg)] 4 c1 m_X11_order x_924 x_925 x_926 p_X11_order rfl ⟨Nat.le_of_ble_eq_true rfl, Nat.le_of_ble_eq_true rfl⟩ ⟨(show kc ≤ 1141 by omega), (show nc ≤ 12322 by omega)⟩ (hM.1.2.2 _ e_11) k_11 rfl (Nat.le_of_ble_eq_true rfl) dL_law_716 (fun r1 u1 v1 hp1 => ?_)
  obtain ⟨P2, c2, h2⟩ := h1 r1 u1 v1 hp1
  refine k_aload_n C 2 dL_law_719 rfl ?_
  refine k_arg C hX 4 0 (v := 1) dL_law_720 dL_law_721 dL_law_723 dL_law_724 dL_law_725 rfl rfl (by decide) (hi 1 (by decide) (by decide)) ?_
  refine k_arg C hX 4 0 (v := 2) dL_law_726 dL_law_727 dL_law_729 dL_law_730 dL_law_731 rfl rfl (by decide) (hi 2 (by decide) (by decide)) ?_
  refine k_arg C hX 4 0 (v := 3) dL_law_732 dL_law_733 dL_law_735 dL_law_736 dL_law_737 rfl rfl (by decide) (hi 3 (by decide) (by decide)) ?_
  refine k_arg C hX 4 0 (v := 4) dL_law_738 dL_law_739 dL_law_741 dL_law_742 dL_law_743 rfl rfl (by decide) (hi 4 (by decide) (by decide)) ?_
  refine k_vI C 12 0 [.int (xs (i + 1).toNatClampNeg), .int (xs (i + 2).toNatClampNeg), .int (xs (i + 3).toNatClampNeg), .int (xs (i + 4).toNatClampNeg)] 4 c2 m_X12_order x_1648 x_1649 x_1650 p_X12_order rfl ⟨Nat.le_of_ble_eq_true rfl, Nat.le_of_ble_eq_true rfl⟩ ⟨(show kc ≤ 1141 by omega), (show nc ≤ 12322 by omega)⟩ (hM.2 _ e_12) k_12 rfl (Nat.le_of_ble_eq_true rfl) dL_law_744 (fun r2 u2 v2 hp2 => ?_)
  obtain ⟨he, hJ⟩ := h2 r2 u2 v2 hp2
  exact k_ic_eq C 1104 dL_law_747 (by decide) (fun _ => k_widen (Nat.le_succ _) (Nat.le_add_right _ 6) (kn u2 v2 hJ)) (fun c => absurd he.symm c)
theorem L_ordered (C : CB K E.D (q_tys E) A cL_law 7 RLw room_1) (hM : q_okM E) (hX : SCR K A b L xs) (hi : hIn i L) (hrm : kc + 1 ≤ 1141 ∧ nc + 6 ≤ 12322) (h : J w z) (kn : ∀ u v, J u v → VC K E.D A 7 Q (kc + 1) (nc + 6) 1104 (lvH E b i) [] (wc E u v)) : VC K E.D A 7 Q kc nc 752 (lvH E b i) [] (wc E w z) := by
  obtain ⟨P1, c1, h1⟩ := s_ordered E hM w z (xs (i + 1).toNatClampNeg) h
  refine k_aload_n C 3 dL_law_752 rfl ?_
  refine k_arg C hX 4 0 (v := 1) dL_law_753 dL_law_754 dL_law_756 dL_law_757 dL_law_758 rfl rfl (by decide) (hi 1 (by decide) (by decide)) ?_
  refine k_vI C 11 0 [.int (xs (i + 1).toNatClampNeg)] 1 c1 m_X11_ordered x_964 x_965 x_966 p_X11_ordered rfl ⟨Nat.le_of_ble_eq_true rfl, Nat.le_of_ble_eq_true rfl⟩ ⟨(show kc ≤ 1141 by omega), (show nc ≤ 12322 by omega)⟩ (hM.1.2.2 _ e_11) k_11 rfl (Nat.le_of_ble_eq_true rfl) dL_law_759 (fun r1 u1 v1 hp1 => ?_)
  obtain ⟨P2, c2, h2⟩ := h1 r1 u1 v1 hp1
  refine k_aload_n C 2 dL_law_762 rfl ?_
  refine k_arg C hX 4 0 (v := 1) dL_law_763 dL_law_764 dL_law_766 dL_law_767 dL_law_768 rfl rfl (by decide) (hi 1 (by decide) (by decide)) ?_
  refine k_vI C 12 0 [.int (xs (i + 1).toNatClampNeg)] 1 c2 m_X12_ordered x_1661 x_1662 x_1663 p_X12_ordered rfl ⟨Nat.le_of_ble_eq_true rfl, Nat.le_of_ble_eq_true rfl⟩ ⟨(show kc ≤ 1141 by omega), (show nc ≤ 12322 by omega)⟩ (hM.2 _ e_12) k_12 rfl (Nat.le_of_ble_eq_true rfl) dL_law_769 (fun r2 u2 v2 hp2 => ?_)
  obtain ⟨he, hJ⟩ := h2 r2 u2 v2 hp2
  exact k_ic_eq C 1104 dL_law_772 (by decide) (fun _ => k_widen (Nat.le_succ _) (Nat.le_add_right _ 6) (kn u2 v2 hJ)) (fun c => absurd he.symm c)
theorem L_cut (C : CB K E.D (q_tys E) A cL_law 7 RLw room_1) (hM : q_okM E) (hX : SCR K A b L xs) (hi : hIn i L) (hrm : kc + 1 ≤ 1141 ∧ nc + 6 ≤ 12322) (h : J w z) (kn : ∀ u v, J u v → VC K E.D A 7 Q (kc + 1) (nc + 6) 1104 (lvH E b i) [] (wc E u v)) : VC K E.D A 7 Q kc nc 777 (lvH E b i) [] (wc E w z) := by
  obtain ⟨P1, c1, h1⟩ := s_cut E hM w z (xs (i + 1).toNatClampNeg) (xs (i + 2).toNatClampNeg) (xs (i + 3).toNatClampNeg) (xs (i + 4).toNatClampNeg) h
  refine k_aload_n C 3 dL_law_777 rfl ?_
  refine k_arg C hX 4 0 (v := 1) dL_law_778 dL_law_779 dL_law_781 dL_law_782 dL_law_783 rfl rfl (by decide) (hi 1 (by decide) (by decide)) ?_
  refine k_arg C hX 4 0 (v := 2) dL_law_784 dL_law_785 dL_law_787 dL_law_788 dL_law_789 rfl rfl (by decide) (hi 2 (by decide) (by decide)) ?_
  refine k_arg C hX 4 0 (v := 3) dL_law_790 dL_law_791 dL_law_793 dL_law_794 dL_law_795 rfl rfl (by decide) (hi 3 (by decide) (by decide)) ?_
  refine k_arg C hX 4 0 (v := 4) dL_law_796 dL_law_797 dL_law_799 dL_law_800 dL_law_801 rfl rfl (by decide) (hi 4 (by decide) (by decide)) ?_
  refine k_vI C 11 0 [.int (xs (i + 1).toNatClampNeg), .int (xs (i + 2).toNatClampNeg), .int (xs (i + 3).toNatClampNeg), .int (xs (i + 4).toNatClampNeg)] 4 c1 m_X11_cut x_972 x_973 x_974 p_X11_cut rfl ⟨Nat.le_of_ble_eq_true rfl, Nat.le_of_ble_eq_true rfl⟩ ⟨(show kc ≤ 1141 by omega), (show nc ≤ 12322 by omega)⟩ (hM.1.2.2 _ e_11) k_11 rfl (Nat.le_of_ble_eq_true rfl) dL_law_802 (fun r1 u1 v1 hp1 => ?_)
  obtain ⟨P2, c2, h2⟩ := h1 r1 u1 v1 hp1
  refine k_aload_n C 2 dL_law_805 rfl ?_
  refine k_arg C hX 4 0 (v := 1) dL_law_806 dL_law_807 dL_law_809 dL_law_810 dL_law_811 rfl rfl (by decide) (hi 1 (by decide) (by decide)) ?_
  refine k_arg C hX 4 0 (v := 2) dL_law_812 dL_law_813 dL_law_815 dL_law_816 dL_law_817 rfl rfl (by decide) (hi 2 (by decide) (by decide)) ?_
  refine k_arg C hX 4 0 (v := 3) dL_law_818 dL_law_819 dL_law_821 dL_law_822 dL_law_823 rfl rfl (by decide) (hi 3 (by decide) (by decide)) ?_
  refine k_arg C hX 4 0 (v := 4) dL_law_824 dL_law_825 dL_law_827 dL_law_828 dL_law_829 rfl rfl (by decide) (hi 4 (by decide) (by decide)) ?_
  refine k_vI C 12 0 [.int (xs (i + 1).toNatClampNeg), .int (xs (i + 2).toNatClampNeg), .int (xs (i + 3).toNatClampNeg), .int (xs (i + 4).toNatClampNeg)] 4 c2 m_X12_cut x_1665 x_1666 x_1667 p_X12_cut rfl ⟨Nat.le_of_ble_eq_true rfl, Nat.le_of_ble_eq_true rfl⟩ ⟨(show kc ≤ 1141 by omega), (show nc ≤ 12322 by omega)⟩ (hM.2 _ e_12) k_12 rfl (Nat.le_of_ble_eq_true rfl) dL_law_830 (fun r2 u2 v2 hp2 => ?_)
  obtain ⟨he, hJ⟩ := h2 r2 u2 v2 hp2
  exact k_ic_eq C 1104 dL_law_833 (by decide) (fun _ => k_widen (Nat.le_succ _) (Nat.le_add_right _ 6) (kn u2 v2 hJ)) (fun c => absurd he.symm c)
theorem L_fits (C : CB K E.D (q_tys E) A cL_law 7 RLw room_1) (hM : q_okM E) (hX : SCR K A b L xs) (hi : hIn i L) (hrm : kc + 1 ≤ 1141 ∧ nc + 6 ≤ 12322) (h : J w z) (kn : ∀ u v, J u v → VC K E.D A 7 Q (kc + 1) (nc + 6) 1104 (lvH E b i) [] (wc E u v)) : VC K E.D A 7 Q kc nc 838 (lvH E b i) [] (wc E w z) := by
  obtain ⟨P1, c1, h1⟩ := s_fits E hM w z (xs (i + 1).toNatClampNeg) (xs (i + 2).toNatClampNeg) h
  refine k_aload_n C 3 dL_law_838 rfl ?_
  refine k_arg C hX 4 0 (v := 1) dL_law_839 dL_law_840 dL_law_842 dL_law_843 dL_law_844 rfl rfl (by decide) (hi 1 (by decide) (by decide)) ?_
  refine k_arg C hX 4 0 (v := 2) dL_law_845 dL_law_846 dL_law_848 dL_law_849 dL_law_850 rfl rfl (by decide) (hi 2 (by decide) (by decide)) ?_
  refine k_vI C 11 0 [.int (xs (i + 1).toNatClampNeg), .int (xs (i + 2).toNatClampNeg)] 2 c1 m_X11_fits x_995 x_996 x_997 p_X11_fits rfl ⟨Nat.le_of_ble_eq_true rfl, Nat.le_of_ble_eq_true rfl⟩ ⟨(show kc ≤ 1141 by omega), (show nc ≤ 12322 by omega)⟩ (hM.1.2.2 _ e_11) k_11 rfl (Nat.le_of_ble_eq_true rfl) dL_law_851 (fun r1 u1 v1 hp1 => ?_)
  obtain ⟨P2, c2, h2⟩ := h1 r1 u1 v1 hp1
  refine k_aload_n C 2 dL_law_854 rfl ?_
  refine k_arg C hX 4 0 (v := 1) dL_law_855 dL_law_856 dL_law_858 dL_law_859 dL_law_860 rfl rfl (by decide) (hi 1 (by decide) (by decide)) ?_
  refine k_arg C hX 4 0 (v := 2) dL_law_861 dL_law_862 dL_law_864 dL_law_865 dL_law_866 rfl rfl (by decide) (hi 2 (by decide) (by decide)) ?_
  refine k_vI C 12 0 [.int (xs (i + 1).toNatClampNeg), .int (xs (i + 2).toNatClampNeg)] 2 c2 m_X12_fits x_1669 x_1670 x_1671 p_X12_fits rfl ⟨Nat.le_of_ble_eq_true rfl, Nat.le_of_ble_eq_true rfl⟩ ⟨(show kc ≤ 1141 by omega), (show nc ≤ 12322 by omega)⟩ (hM.2 _ e_12) k_12 rfl (Nat.le_of_ble_eq_true rfl) dL_law_867 (fun r2 u2 v2 hp2 => ?_)
  obtain ⟨he, hJ⟩ := h2 r2 u2 v2 hp2
  exact k_ic_eq C 1104 dL_law_870 (by decide) (fun _ => k_widen (Nat.le_succ _) (Nat.le_add_right _ 6) (kn u2 v2 hJ)) (fun c => absurd he.symm c)
theorem L_fitAt (C : CB K E.D (q_tys E) A cL_law 7 RLw room_1) (hM : q_okM E) (hX : SCR K A b L xs) (hi : hIn i L) (hrm : kc + 1 ≤ 1141 ∧ nc + 6 ≤ 12322) (h : J w z) (kn : ∀ u v, J u v → VC K E.D A 7 Q (kc + 1) (nc + 6) 1104 (lvH E b i) [] (wc E u v)) : VC K E.D A 7 Q kc nc 875 (lvH E b i) [] (wc E w z) := by
  obtain ⟨P1, c1, h1⟩ := s_fitAt E hM w z (xs (i + 1).toNatClampNeg) h
  refine k_aload_n C 3 dL_law_875 rfl ?_
  refine k_arg C hX 4 0 (v := 1) dL_law_876 dL_law_877 dL_law_879 dL_law_880 dL_law_881 rfl rfl (by decide) (hi 1 (by decide) (by decide)) ?_
  refine k_vI C 11 0 [.int (xs (i + 1).toNatClampNeg)] 1 c1 m_X11_fitAt x_1041 x_1042 x_1043 p_X11_fitAt rfl ⟨Nat.le_of_ble_eq_true rfl, Nat.le_of_ble_eq_true rfl⟩ ⟨(show kc ≤ 1141 by omega), (show nc ≤ 12322 by omega)⟩ (hM.1.2.2 _ e_11) k_11 rfl (Nat.le_of_ble_eq_true rfl) dL_law_882 (fun r1 u1 v1 hp1 => ?_)
  obtain ⟨P2, c2, h2⟩ := h1 r1 u1 v1 hp1
  refine k_aload_n C 2 dL_law_885 rfl ?_
  refine k_arg C hX 4 0 (v := 1) dL_law_886 dL_law_887 dL_law_889 dL_law_890 dL_law_891 rfl rfl (by decide) (hi 1 (by decide) (by decide)) ?_
  refine k_vI C 12 0 [.int (xs (i + 1).toNatClampNeg)] 1 c2 m_X12_fitAt x_1692 x_1693 x_1694 p_X12_fitAt rfl ⟨Nat.le_of_ble_eq_true rfl, Nat.le_of_ble_eq_true rfl⟩ ⟨(show kc ≤ 1141 by omega), (show nc ≤ 12322 by omega)⟩ (hM.2 _ e_12) k_12 rfl (Nat.le_of_ble_eq_true rfl) dL_law_892 (fun r2 u2 v2 hp2 => ?_)
  obtain ⟨he, hJ⟩ := h2 r2 u2 v2 hp2
  exact k_ic_eq C 1104 dL_law_895 (by decide) (fun _ => k_widen (Nat.le_succ _) (Nat.le_add_right _ 6) (kn u2 v2 hJ)) (fun c => absurd he.symm c)
theorem L_walks (C : CB K E.D (q_tys E) A cL_law 7 RLw room_1) (hM : q_okM E) (hX : SCR K A b L xs) (hi : hIn i L) (hrm : kc + 1 ≤ 1141 ∧ nc + 6 ≤ 12322) (h : J w z) (kn : ∀ u v, J u v → VC K E.D A 7 Q (kc + 1) (nc + 6) 1104 (lvH E b i) [] (wc E u v)) : VC K E.D A 7 Q kc nc 900 (lvH E b i) [] (wc E w z) := by
  obtain ⟨P1, c1, h1⟩ := s_walks E hM w z (xs (i + 1).toNatClampNeg) h
  refine k_aload_n C 3 dL_law_900 rfl ?_
  refine k_arg C hX 4 0 (v := 1) dL_law_901 dL_law_902 dL_law_904 dL_law_905 dL_law_906 rfl rfl (by decide) (hi 1 (by decide) (by decide)) ?_
  refine k_vI C 11 0 [.int (xs (i + 1).toNatClampNeg)] 1 c1 m_X11_walks x_1049 x_1050 x_1051 p_X11_walks rfl ⟨Nat.le_of_ble_eq_true rfl, Nat.le_of_ble_eq_true rfl⟩ ⟨(show kc ≤ 1141 by omega), (show nc ≤ 12322 by omega)⟩ (hM.1.2.2 _ e_11) k_11 rfl (Nat.le_of_ble_eq_true rfl) dL_law_907 (fun r1 u1 v1 hp1 => ?_)
  obtain ⟨P2, c2, h2⟩ := h1 r1 u1 v1 hp1
  refine k_aload_n C 2 dL_law_910 rfl ?_
  refine k_arg C hX 4 0 (v := 1) dL_law_911 dL_law_912 dL_law_914 dL_law_915 dL_law_916 rfl rfl (by decide) (hi 1 (by decide) (by decide)) ?_
  refine k_vI C 12 0 [.int (xs (i + 1).toNatClampNeg)] 1 c2 m_X12_walks x_1696 x_1697 x_1698 p_X12_walks rfl ⟨Nat.le_of_ble_eq_true rfl, Nat.le_of_ble_eq_true rfl⟩ ⟨(show kc ≤ 1141 by omega), (show nc ≤ 12322 by omega)⟩ (hM.2 _ e_12) k_12 rfl (Nat.le_of_ble_eq_true rfl) dL_law_917 (fun r2 u2 v2 hp2 => ?_)
  obtain ⟨he, hJ⟩ := h2 r2 u2 v2 hp2
  exact k_ic_eq C 1104 dL_law_920 (by decide) (fun _ => k_widen (Nat.le_succ _) (Nat.le_add_right _ 6) (kn u2 v2 hJ)) (fun c => absurd he.symm c)
theorem L_walked (C : CB K E.D (q_tys E) A cL_law 7 RLw room_1) (hM : q_okM E) (hX : SCR K A b L xs) (hi : hIn i L) (hrm : kc + 1 ≤ 1141 ∧ nc + 6 ≤ 12322) (h : J w z) (kn : ∀ u v, J u v → VC K E.D A 7 Q (kc + 1) (nc + 6) 1104 (lvH E b i) [] (wc E u v)) : VC K E.D A 7 Q kc nc 925 (lvH E b i) [] (wc E w z) := by
  obtain ⟨P1, c1, h1⟩ := s_walked E hM w z (xs (i + 1).toNatClampNeg) h
  refine k_aload_n C 3 dL_law_925 rfl ?_
  refine k_arg C hX 4 0 (v := 1) dL_law_926 dL_law_927 dL_law_929 dL_law_930 dL_law_931 rfl rfl (by decide) (hi 1 (by decide) (by decide)) ?_
  refine k_vI C 11 0 [.int (xs (i + 1).toNatClampNeg)] 1 c1 m_X11_walked x_1078 x_1079 x_1080 p_X11_walked rfl ⟨Nat.le_of_ble_eq_true rfl, Nat.le_of_ble_eq_true rfl⟩ ⟨(show kc ≤ 1141 by omega), (show nc ≤ 12322 by omega)⟩ (hM.1.2.2 _ e_11) k_11 rfl (Nat.le_of_ble_eq_true rfl) dL_law_932 (fun r1 u1 v1 hp1 => ?_)
  obtain ⟨P2, c2, h2⟩ := h1 r1 u1 v1 hp1
  refine k_aload_n C 2 dL_law_935 rfl ?_
  refine k_arg C hX 4 0 (v := 1) dL_law_936 dL_law_937 dL_law_939 dL_law_940 dL_law_941 rfl rfl (by decide) (hi 1 (by decide) (by decide)) ?_
  refine k_vI C 12 0 [.int (xs (i + 1).toNatClampNeg)] 1 c2 m_X12_walked x_1707 x_1708 x_1709 p_X12_walked rfl ⟨Nat.le_of_ble_eq_true rfl, Nat.le_of_ble_eq_true rfl⟩ ⟨(show kc ≤ 1141 by omega), (show nc ≤ 12322 by omega)⟩ (hM.2 _ e_12) k_12 rfl (Nat.le_of_ble_eq_true rfl) dL_law_942 (fun r2 u2 v2 hp2 => ?_)
  obtain ⟨he, hJ⟩ := h2 r2 u2 v2 hp2
  exact k_ic_eq C 1104 dL_law_945 (by decide) (fun _ => k_widen (Nat.le_succ _) (Nat.le_add_right _ 6) (kn u2 v2 hJ)) (fun c => absurd he.symm c)
theorem L_day (C : CB K E.D (q_tys E) A cL_law 7 RLw room_1) (hM : q_okM E) (hX : SCR K A b L xs) (hi : hIn i L) (hrm : kc + 1 ≤ 1141 ∧ nc + 6 ≤ 12322) (h : J w z) (kn : ∀ u v, J u v → VC K E.D A 7 Q (kc + 1) (nc + 6) 1104 (lvH E b i) [] (wc E u v)) : VC K E.D A 7 Q kc nc 950 (lvH E b i) [] (wc E w z) := by
  by_cases hc : (xs (i + 1).toNatClampNeg) = 0
  · obtain ⟨P1, c1, h1⟩ := s_day E hM w z 0 h
    refine k_aload_n C 3 dL_law_950 rfl ?_
    refine k_arg C hX 4 0 (v := 1) dL_law_951 dL_law_952 dL_law_954 dL_law_955 dL_law_956 rfl rfl (by decide) (hi 1 (by decide) (by decide)) ?_
    refine k_if_eq C 964 dL_law_957 (by decide) (fun _ => ?_) (fun c => absurd hc c)
    refine k_iconst (v := 0) C dL_law_964 (by decide) ?_
    refine k_vI C 11 0 [.int 0] 1 c1 m_X11_day x_1082 x_1083 x_1084 p_X11_day rfl ⟨Nat.le_of_ble_eq_true rfl, Nat.le_of_ble_eq_true rfl⟩ ⟨(show kc ≤ 1141 by omega), (show nc ≤ 12322 by omega)⟩ (hM.1.2.2 _ e_11) k_11 rfl (Nat.le_of_ble_eq_true rfl) dL_law_965 (fun r1 u1 v1 hp1 => ?_)
    obtain ⟨P2, c2, h2⟩ := h1 r1 u1 v1 hp1
    refine k_aload_n C 2 dL_law_968 rfl ?_
    refine k_arg C hX 4 0 (v := 1) dL_law_969 dL_law_970 dL_law_972 dL_law_973 dL_law_974 rfl rfl (by decide) (hi 1 (by decide) (by decide)) ?_
    refine k_if_eq C 982 dL_law_975 (by decide) (fun _ => ?_) (fun c => absurd hc c)
    refine k_iconst (v := 0) C dL_law_982 (by decide) ?_
    refine k_vI C 12 0 [.int 0] 1 c2 m_X12_day x_1711 x_1712 x_1713 p_X12_day rfl ⟨Nat.le_of_ble_eq_true rfl, Nat.le_of_ble_eq_true rfl⟩ ⟨(show kc ≤ 1141 by omega), (show nc ≤ 12322 by omega)⟩ (hM.2 _ e_12) k_12 rfl (Nat.le_of_ble_eq_true rfl) dL_law_983 (fun r2 u2 v2 hp2 => ?_)
    obtain ⟨he, hJ⟩ := h2 r2 u2 v2 hp2
    exact k_ic_eq C 1104 dL_law_986 (by decide) (fun _ => k_widen (Nat.le_succ _) (Nat.le_add_right _ 6) (kn u2 v2 hJ)) (fun c => absurd he.symm c)
  · obtain ⟨P1, c1, h1⟩ := s_day E hM w z 1 h
    refine k_aload_n C 3 dL_law_950 rfl ?_
    refine k_arg C hX 4 0 (v := 1) dL_law_951 dL_law_952 dL_law_954 dL_law_955 dL_law_956 rfl rfl (by decide) (hi 1 (by decide) (by decide)) ?_
    refine k_if_eq C 964 dL_law_957 (by decide) (fun c => absurd c hc) (fun _ => ?_)
    refine k_iconst (v := 1) C dL_law_960 (by decide) ?_
    refine k_goto C 965 dL_law_961 (by decide) ?_
    refine k_vI C 11 0 [.int 1] 1 c1 m_X11_day x_1082 x_1083 x_1084 p_X11_day rfl ⟨Nat.le_of_ble_eq_true rfl, Nat.le_of_ble_eq_true rfl⟩ ⟨(show kc ≤ 1141 by omega), (show nc ≤ 12322 by omega)⟩ (hM.1.2.2 _ e_11) k_11 rfl (Nat.le_of_ble_eq_true rfl) dL_law_965 (fun r1 u1 v1 hp1 => ?_)
    obtain ⟨P2, c2, h2⟩ := h1 r1 u1 v1 hp1
    refine k_aload_n C 2 dL_law_968 rfl ?_
    refine k_arg C hX 4 0 (v := 1) dL_law_969 dL_law_970 dL_law_972 dL_law_973 dL_law_974 rfl rfl (by decide) (hi 1 (by decide) (by decide)) ?_
    refine k_if_eq C 982 dL_law_975 (by decide) (fun c => absurd c hc) (fun _ => ?_)
    refine k_iconst (v := 1) C dL_law_978 (by decide) ?_
    refine k_goto C 983 dL_law_979 (by decide) ?_
    refine k_vI C 12 0 [.int 1] 1 c2 m_X12_day x_1711 x_1712 x_1713 p_X12_day rfl ⟨Nat.le_of_ble_eq_true rfl, Nat.le_of_ble_eq_true rfl⟩ ⟨(show kc ≤ 1141 by omega), (show nc ≤ 12322 by omega)⟩ (hM.2 _ e_12) k_12 rfl (Nat.le_of_ble_eq_true rfl) dL_law_983 (fun r2 u2 v2 hp2 => ?_)
    obtain ⟨he, hJ⟩ := h2 r2 u2 v2 hp2
    exact k_ic_eq C 1104 dL_law_986 (by decide) (fun _ => k_widen (Nat.le_succ _) (Nat.le_add_right _ 6) (kn u2 v2 hJ)) (fun c => absurd he.symm c)
theorem L_mended (C : CB K E.D (q_tys E) A cL_law 7 RLw room_1) (hM : q_okM E) (hX : SCR K A b L xs) (hi : hIn i L) (hrm : kc + 1 ≤ 1141 ∧ nc + 6 ≤ 12322) (h : J w z) (kn : ∀ u v, J u v → VC K E.D A 7 Q (kc + 1) (nc + 6) 1104 (lvH E b i) [] (wc E u v)) : VC K E.D A 7 Q kc nc 991 (lvH E b i) [] (wc E w z) := by
  obtain ⟨P1, c1, h1⟩ := s_mended E hM w z (xs (i + 1).toNatClampNeg) h
  refine k_aload_n C 3 dL_law_991 rfl ?_
  refine k_arg C hX 4 0 (v := 1) dL_law_992 dL_law_993 dL_law_995 dL_law_996 dL_law_997 rfl rfl (by decide) (hi 1 (by decide) (by decide)) ?_
  refine k_vI C 11 0 [.int (xs (i + 1).toNatClampNeg)] 1 c1 m_X11_mended x_1101 x_1102 x_1103 p_X11_mended rfl ⟨Nat.le_of_ble_eq_true rfl, Nat.le_of_ble_eq_true rfl⟩ ⟨(show kc ≤ 1141 by omega), (show nc ≤ 12322 by omega)⟩ (hM.1.2.2 _ e_11) k_11 rfl (Nat.le_of_ble_eq_true rfl) dL_law_998 (fun r1 u1 v1 hp1 => ?_)
  obtain ⟨P2, c2, h2⟩ := h1 r1 u1 v1 hp1
  refine k_aload_n C 2 dL_law_1001 rfl ?_
  refine k_arg C hX 4 0 (v := 1) dL_law_1002 dL_law_1003 dL_law_1005 dL_law_1006 dL_law_1007 rfl rfl (by decide) (hi 1 (by decide) (by decide)) ?_
  refine k_vI C 12 0 [.int (xs (i + 1).toNatClampNeg)] 1 c2 m_X12_mended x_1719 x_1720 x_1721 p_X12_mended rfl ⟨Nat.le_of_ble_eq_true rfl, Nat.le_of_ble_eq_true rfl⟩ ⟨(show kc ≤ 1141 by omega), (show nc ≤ 12322 by omega)⟩ (hM.2 _ e_12) k_12 rfl (Nat.le_of_ble_eq_true rfl) dL_law_1008 (fun r2 u2 v2 hp2 => ?_)
  obtain ⟨he, hJ⟩ := h2 r2 u2 v2 hp2
  exact k_ic_eq C 1104 dL_law_1011 (by decide) (fun _ => k_widen (Nat.le_succ _) (Nat.le_add_right _ 6) (kn u2 v2 hJ)) (fun c => absurd he.symm c)
theorem L_suspects (C : CB K E.D (q_tys E) A cL_law 7 RLw room_1) (hM : q_okM E) (hX : SCR K A b L xs) (hi : hIn i L) (hrm : kc + 1 ≤ 1141 ∧ nc + 6 ≤ 12322) (h : J w z) (kn : ∀ u v, J u v → VC K E.D A 7 Q (kc + 1) (nc + 6) 1104 (lvH E b i) [] (wc E u v)) : VC K E.D A 7 Q kc nc 1016 (lvH E b i) [] (wc E w z) := by
  obtain ⟨P1, c1, h1⟩ := s_suspects E hM w z (xs (i + 1).toNatClampNeg) h
  refine k_aload_n C 3 dL_law_1016 rfl ?_
  refine k_arg C hX 4 0 (v := 1) dL_law_1017 dL_law_1018 dL_law_1020 dL_law_1021 dL_law_1022 rfl rfl (by decide) (hi 1 (by decide) (by decide)) ?_
  refine k_vI C 11 0 [.int (xs (i + 1).toNatClampNeg)] 1 c1 m_X11_suspects x_1109 x_1110 x_1111 p_X11_suspects rfl ⟨Nat.le_of_ble_eq_true rfl, Nat.le_of_ble_eq_true rfl⟩ ⟨(show kc ≤ 1141 by omega), (show nc ≤ 12322 by omega)⟩ (hM.1.2.2 _ e_11) k_11 rfl (Nat.le_of_ble_eq_true rfl) dL_law_1023 (fun r1 u1 v1 hp1 => ?_)
  obtain ⟨P2, c2, h2⟩ := h1 r1 u1 v1 hp1
  refine k_aload_n C 2 dL_law_1026 rfl ?_
  refine k_arg C hX 4 0 (v := 1) dL_law_1027 dL_law_1028 dL_law_1030 dL_law_1031 dL_law_1032 rfl rfl (by decide) (hi 1 (by decide) (by decide)) ?_
  refine k_vI C 12 0 [.int (xs (i + 1).toNatClampNeg)] 1 c2 m_X12_suspects x_1723 x_1724 x_1725 p_X12_suspects rfl ⟨Nat.le_of_ble_eq_true rfl, Nat.le_of_ble_eq_true rfl⟩ ⟨(show kc ≤ 1141 by omega), (show nc ≤ 12322 by omega)⟩ (hM.2 _ e_12) k_12 rfl (Nat.le_of_ble_eq_true rfl) dL_law_1033 (fun r2 u2 v2 hp2 => ?_)
  obtain ⟨he, hJ⟩ := h2 r2 u2 v2 hp2
  exact k_ic_eq C 1104 dL_law_1036 (by decide) (fun _ => k_widen (Nat.le_succ _) (Nat.le_add_right _ 6) (kn u2 v2 hJ)) (fun c => absurd he.symm c)
theorem L_suspect (C : CB K E.D (q_tys E) A cL_law 7 RLw room_1) (hM : q_okM E) (hX : SCR K A b L xs) (hi : hIn i L) (hrm : kc + 1 ≤ 1141 ∧ nc + 6 ≤ 12322) (h : J w z) (kn : ∀ u v, J u v → VC K E.D A 7 Q (kc + 1) (nc + 6) 1104 (lvH E b i) [] (wc E u v)) : VC K E.D A 7 Q kc nc 1041 (lvH E b i) [] (wc E w z) := by
  obtain ⟨P1, c1, h1⟩ := s_suspect E hM w z (xs (i + 1).toNatClampNeg) h
  refine k_aload_n C 3 dL_law_1041 rfl ?_
  refine k_arg C hX 4 0 (v := 1) dL_law_1042 dL_law_1043 dL_law_1045 dL_law_1046 dL_law_1047 rfl rfl (by decide) (hi 1 (by decide) (by decide)) ?_
  refine k_vI C 11 0 [.int (xs (i + 1).toNatClampNeg)] 1 c1 m_X11_suspect x_1125 x_1126 x_1127 p_X11_suspect rfl ⟨Nat.le_of_ble_eq_true rfl, Nat.le_of_ble_eq_true rfl⟩ ⟨(show kc ≤ 1141 by omega), (show nc ≤ 12322 by omega)⟩ (hM.1.2.2 _ e_11) k_11 rfl (Nat.le_of_ble_eq_true rfl) dL_law_1048 (fun r1 u1 v1 hp1 => ?_)
  obtain ⟨P2, c2, h2⟩ := h1 r1 u1 v1 hp1
  refine k_aload_n C 2 dL_law_1051 rfl ?_
  refine k_arg C hX 4 0 (v := 1) dL_law_1052 dL_law_1053 dL_law_1055 dL_law_1056 dL_law_1057 rfl rfl (by decide) (hi 1 (by decide) (by decide)) ?_
  refine k_vI C 12 0 [.int (xs (i + 1).toNatClampNeg)] 1 c2 m_X12_suspect x_1735 x_1736 x_1737 p_X12_suspect rfl ⟨Nat.le_of_ble_eq_true rfl, Nat.le_of_ble_eq_true rfl⟩ ⟨(show kc ≤ 1141 by omega), (show nc ≤ 12322 by omega)⟩ (hM.2 _ e_12) k_12 rfl (Nat.le_of_ble_eq_true rfl) dL_law_1058 (fun r2 u2 v2 hp2 => ?_)
  obtain ⟨he, hJ⟩ := h2 r2 u2 v2 hp2
  exact k_ic_eq C 1104 dL_law_1061 (by decide) (fun _ => k_widen (Nat.le_succ _) (Nat.le_add_right _ 6) (kn u2 v2 hJ)) (fun c => absurd he.symm c)
theorem L_next (C : CB K E.D (q_tys E) A cL_law 7 RLw room_1) (hM : q_okM E) (hX : SCR K A b L xs) (hi : hIn i L) (hrm : kc + 1 ≤ 1141 ∧ nc + 6 ≤ 12322) (h : J w z) (kn : ∀ u v, J u v → VC K E.D A 7 Q (kc + 1) (nc + 6) 1104 (lvH E b i) [] (wc E u v)) : VC K E.D A 7 Q kc nc 1066 (lvH E b i) [] (wc E w z) := by
  obtain ⟨P1, c1, h1⟩ := s_next E hM w z h
  refine k_aload_n C 3 dL_law_1066 rfl ?_
  refine k_vI C 11 0 [] 0 c1 m_X11_next x_1133 x_1134 x_1135 p_X11_next rfl ⟨Nat.le_of_ble_eq_true rfl, Nat.le_of_ble_eq_true rfl⟩ ⟨(show kc ≤ 1141 by omega), (show nc ≤ 12322 by omega)⟩ (hM.1.2.2 _ e_11) k_11 rfl (Nat.le_of_ble_eq_true rfl) dL_law_1067 (fun r1 u1 v1 hp1 => ?_)
  obtain ⟨P2, c2, h2⟩ := h1 r1 u1 v1 hp1
  refine k_aload_n C 2 dL_law_1070 rfl ?_
  refine k_vI C 12 0 [] 0 c2 m_X12_next x_1739 x_1740 x_1741 p_X12_next rfl ⟨Nat.le_of_ble_eq_true rfl, Nat.le_of_ble_eq_true rfl⟩ ⟨(show kc ≤ 1141 by omega), (show nc ≤ 12322 by omega)⟩ (hM.2 _ e_12) k_12 rfl (Nat.le_of_ble_eq_true rfl) dL_law_1071 (fun r2 u2 v2 hp2 => ?_)
  obtain ⟨he, hJ⟩ := h2 r2 u2 v2 hp2
  exact k_ic_eq C 1104 dL_law_1074 (by decide) (fun _ => k_widen (Nat.le_succ _) (Nat.le_add_right _ 6) (kn u2 v2 hJ)) (fun c => absurd he.symm c)
theorem L_count (C : CB K E.D (q_tys E) A cL_law 7 RLw room_1) (hM : q_okM E) (hX : SCR K A b L xs) (hi : hIn i L) (hrm : kc + 1 ≤ 1141 ∧ nc + 6 ≤ 12322) (h : J w z) (kn : ∀ u v, J u v → VC K E.D A 7 Q (kc + 1) (nc + 6) 1104 (lvH E b i) [] (wc E u v)) : VC K E.D A 7 Q kc nc 1079 (lvH E b i) [] (wc E w z) := by
  obtain ⟨P1, c1, h1⟩ := s_count E hM w z (xs (i + 1).toNatClampNeg) h
  refine k_aload_n C 3 dL_law_1079 rfl ?_
  refine k_arg C hX 4 0 (v := 1) dL_law_1080 dL_law_1081 dL_law_1083 dL_law_1084 dL_law_1085 rfl rfl (by decide) (hi 1 (by decide) (by decide)) ?_
  refine k_vI C 11 0 [.int (xs (i + 1).toNatClampNeg)] 1 c1 m_X11_count x_1146 x_1147 x_1148 p_X11_count rfl ⟨Nat.le_of_ble_eq_true rfl, Nat.le_of_ble_eq_true rfl⟩ ⟨(show kc ≤ 1141 by omega), (show nc ≤ 12322 by omega)⟩ (hM.1.2.2 _ e_11) k_11 rfl (Nat.le_of_ble_eq_true rfl) dL_law_1086 (fun r1 u1 v1 hp1 => ?_)
  obtain ⟨P2, c2, h2⟩ := h1 r1 u1 v1 hp1
  refine k_aload_n C 2 dL_law_1089 rfl ?_
  refine k_arg C hX 4 0 (v := 1) dL_law_1090 dL_law_1091 dL_law_1093 dL_law_1094 dL_law_1095 rfl rfl (by decide) (hi 1 (by decide) (by decide)) ?_
  refine k_vI C 12 0 [.int (xs (i + 1).toNatClampNeg)] 1 c2 m_X12_count x_1743 x_1744 x_1745 p_X12_count rfl ⟨Nat.le_of_ble_eq_true rfl, Nat.le_of_ble_eq_true rfl⟩ ⟨(show kc ≤ 1141 by omega), (show nc ≤ 12322 by omega)⟩ (hM.2 _ e_12) k_12 rfl (Nat.le_of_ble_eq_true rfl) dL_law_1096 (fun r2 u2 v2 hp2 => ?_)
  obtain ⟨he, hJ⟩ := h2 r2 u2 v2 hp2
  exact k_ic_eq C 1104 dL_law_1099 (by decide) (fun _ => k_widen (Nat.le_succ _) (Nat.le_add_right _ 6) (kn u2 v2 hJ)) (fun c => absurd he.symm c)
end LB
