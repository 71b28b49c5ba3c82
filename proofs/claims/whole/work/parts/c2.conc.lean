/-! the two objects of the law, new -/
def asO : Row := (upd (upd (upd (upd (upd (upd (upd (upd (upd (upd (upd (upd (upd (upd (upd (upd (fun _ => 0) 0 0) 1 1) 2 2) 3 3) 4 4) 5 5) 6 6) 7 7) 8 8) 9 9) 10 10) 11 11) 12 12) 13 13) 14 14) 15 15)
def w0 : Wi := fun t _ => if t = 56 then asO else if t = 107 then (fun _ => (-1)) else if t = 501 then (fun _ => 700) else if t = 502 then (fun _ => 40) else if t = 822 then (fun _ => (-1)) else if t = 823 then (fun _ => (-1)) else if t = 1074 then (fun _ => 1) else if t = 1075 then (fun _ => 700) else if t = 1076 then (fun _ => 40) else (fun _ => 0)
def z0 : Wj := fun _ _ _ => 0
def w1 : Wi := wS (wS (wS (wS (wS (wS (wS (wS w0 30 0 (upd (w0 30 0) ((w0 500 0 0) + 1).toNatClampNeg 0)) 31 0 (upd (w0 31 0) ((w0 500 0 0) + 1).toNatClampNeg 50)) 32 0 (upd (w0 32 0) ((w0 500 0 0) + 1).toNatClampNeg 0)) 33 0 (upd (w0 33 0) ((w0 500 0 0) + 1).toNatClampNeg 0)) 34 0 (upd (w0 34 0) ((w0 500 0 0) + 1).toNatClampNeg 0)) 35 0 (upd (w0 35 0) ((w0 500 0 0) + 1).toNatClampNeg 100)) 36 0 (upd (w0 36 0) ((w0 500 0 0) + 1).toNatClampNeg 0)) 500 0 (fun _ => (w0 500 0 0) + 1)
def ULc : List (Nat × Nat) := [(11, 0), (7, 0), (37, 0), (8, 0), (9, 0), (5, 1), (30, 1), (31, 1), (32, 1), (33, 1), (34, 1), (35, 1), (36, 1), (3, 0), (4, 1), (27, 1), (28, 1), (29, 1), (5, 0), (30, 0), (31, 0), (32, 0), (33, 0), (34, 0), (35, 0), (36, 0), (4, 0), (27, 0), (28, 0), (29, 0), (0, 0), (13, 0), (14, 0), (15, 0), (16, 0), (6, 0), (10, 0), (5, 2), (30, 2), (31, 2), (32, 2), (33, 2), (34, 2), (35, 2), (36, 2), (0, 1), (13, 1), (14, 1), (15, 1), (16, 1), (0, 2), (13, 2), (14, 2), (15, 2), (16, 2), (6, 1), (6, 2), (38, 0), (39, 0), (40, 0), (2, 0), (5, 3), (30, 3), (31, 3), (32, 3), (33, 3), (34, 3), (35, 3), (36, 3), (0, 3), (13, 3), (14, 3), (15, 3), (16, 3), (21, 0), (22, 0), (23, 0), (24, 0), (25, 0), (26, 0), (1, 0), (17, 0), (18, 0), (19, 0), (20, 0)]
def ULm : List (Nat × Nat) := [(12, 0), (41, 0), (42, 0), (43, 0), (44, 0), (45, 0), (46, 0), (47, 0), (48, 0), (49, 0), (50, 0), (51, 0), (52, 0), (53, 0), (54, 0), (55, 0), (56, 0), (57, 0), (58, 0), (59, 0), (60, 0), (61, 0), (62, 0), (63, 0), (64, 0), (65, 0), (66, 0), (67, 0), (68, 0)]
def adL (L : List (List Nat)) : Nat → Nat → Nat := fun t a => (L.getD t []).getD a 0
theorem asO_e : ∀ k, k < 16 → asO k = nI k := by decide +kernel
theorem ULc_ok (ad : Nat → Nat → Nat) (cI cZ cJ : ClassId) (D : va_G) : q_ok (ad, cI, cZ, cJ, D, ULc) := ⟨by show ULc.Nodup; decide +kernel, by show ∀ q ∈ ULc, q.1 < 80; decide +kernel, by show ∀ q ∈ q_UC, q ∈ ULc; decide +kernel⟩
section KW
variable {K : Pk} {D : va_G} {tys : List (ClassId × FieldType)} {A : Nat → Prop} {cc : ByteArray} {nL : Nat} {own : String} {rm : Room} {Q : State → Prop} {k n pc : Nat} {lv : List (Nat × Value)} {st : List Value} {ws ws2 : va_W} {w : Wi} {z : Wj}
theorem k_w (h : ws = ws2) (kk : VC K D A nL Q k n pc lv st ws2) : VC K D A nL Q k n pc lv st ws := h ▸ kk
theorem k_vV {E : En} (C : CB K E.D (q_tys E) A cc nL own rm) {M : Md} {index : Nat} {rest : List Value} {post : WW → Prop} {k2 n2 : Nat} (t a : Nat) (As : List Value) (b : Nat) (hc : CtV M E (.ref (E.ad t a) :: As) w z post) (hM : M.ok) (hl : Cond.methodLink own index M.1 ∈ gtb) (hi : Cond.instanceMethod M.1 ∈ gtb) (hse : Cond.selects M.1.cls M.1 M.1 ∈ gtb) (hd : (parseMethodDescriptor M.1.desc).map (fun d => d.parameters.length) = some b) (hn : As.length = b) (hR : M.2.2.2.2.frames + 1 ≤ rm.frames ∧ 8 + (M.2.2.1 + 11) + M.2.2.2.2.locals ≤ rm.locals) (hk : k = k2) (hn2 : n = n2) (hrm : k2 ≤ rm.cells ∧ n2 ≤ rm.slots) (hm : (t, a) ∈ E.U) {T : u_T} (hcl : q_cl t M.1.cls T) (hst : st = As.reverse ++ .ref (E.ad t a) :: rest) (hr : (rest.map fun v => v.category).sum ≤ 8) (d : decode cc pc = .ok (.invokevirtual index, 3)) (kk : ∀ (u : Wi) (v : Wj), post (u, v) → VC K E.D A nL Q k2 n2 (pc + 3) lv rest (wc E u v)) : VC K E.D A nL Q k n pc lv st (wc E w z) := by
  intro H locs ls hls hP hD hS
  subst hk
  subst hn2
  have hR2 := C.2.2.2.2.2.2.2.1
  obtain ⟨j, -, hj⟩ := wc_at (w := w) (z := z) hm
  rw [show q_e E w z t a = .inr (t, (List.range (q_N t)).map (q_fv E w z t a)) from if_pos hcl.1] at hj
  have hF : ∀ q, va_A (wc E w z) H.size q → A q := by
    intro q h
    rcases h with ⟨i, e, h⟩ | h
    · exact hD.2 i (q, e) h
    · exact C.2.2.2.2.2.2.1 q (Nat.le_trans hS.1 h)
  refine va_callv (va_runV (Ts := gtb) (As := As) (rest := rest) (C := M.1.cls) ⟨C.1, C.2.1, C.2.2.1, C.2.2.2.1, C.2.2.2.2.1⟩ (hc K.l H.size) ⟨q_cb (Ts := gtb) hM C.2.2.2.2.1 hl hd (by rw [hR2]; exact hR), C.2.2.2.2.1 _ hi, C.2.2.2.2.1 _ hse⟩ ⟨q_blind _ _ _ _ _, va_recv C.2.2.2.2.2.1 hP hcl.2.1 hj, fun U hU hW => ⟨rfl, by rw [hU], by rw [hU]; exact hP, va_K.moved hW.alike C.2.2.2.2.2.1, hD.weaken (fun _ _ _ _ => trivial)⟩⟩ rfl hn hls.1 hst (lv_room hr) d ⟨by rw [hR2]; exact hrm.1, by rw [hR2]; exact hrm.2⟩) hS (fun q _ h => hF q h) hF (fun u t' H1 locs1 ht hvm hw hB hz1 hk1 hS1 => ?_)
  obtain ⟨hP1, hK1, hD1⟩ := hB
  rw [ht] at hP1
  exact kk u.1 u.2 hw H1 locs1 ls hls hP1 (hD1.weaken (fun _ _ _ h => hF _ h)) hS1
end KW
def N_X11_init : Mn := (yX11_init, cX11_init, 1, { frames := 3, cells := 84, slots := 2318, locals := 62 })
theorem n_X11_init : N_X11_init.ok := ⟨by decide, by decide, by decide, x_72, x_100, x_99, rfl⟩
theorem pn_X11_init : (parseMethodDescriptor N_X11_init.1.desc).map (fun d => d.parameters.length) = some 0 := by decide +kernel
def P_X11_init (D : va_G) (cI cZ cJ : ClassId) (h0 : Nat) : va_W → Prop := fun ws => ∃ ad : Nat → Nat → Nat, ad 11 0 = h0 ∧ ws = wc (ad, cI, cZ, cJ, D, ULc) w1 z0
set_option maxRecDepth 100000 in
set_option maxHeartbeats 16000000 in
theorem c_X11_init (D : va_G) (cI cZ cJ : ClassId) (h0 : Nat) : CtN N_X11_init D [(cI, .int), (cZ, .boolean), (cJ, .long)] [.ref h0] (h0, .inr (11, [.null, .null, .null, .null, .null, .null, .null, .null, .null, .null, .null, .int 0, .int 0])) (P_X11_init D cI cZ cJ h0) := by
  refine ctN_of n_X11_init (Nat.le_of_ble_eq_true rfl) (lv := [(0, .ref h0)]) rfl (fun K A C => ?_)
  have C : CC K D [(cI, .int), (cZ, .boolean), (cJ, .long)] A cX11_init 1 RX11 { frames := 3, cells := 84, slots := 2318, locals := 62 } := C
  have B := C.1
  show VC K D A 1 (QN K D [(cI, .int), (cZ, .boolean), (cJ, .long)] A (P_X11_init D cI cZ cJ h0) 84 2318) 0 0 0 [(0, .ref h0)] [] [(h0, .inr (11, [.null, .null, .null, .null, .null, .null, .null, .null, .null, .null, .null, .int 0, .int 0]))]
  refine k_aload_n B 0 dX11_init_0 rfl ?_
  refine k_obj B x_101 x_102 xk_103 ⟨by decide, by decide⟩ (by decide) dX11_init_1 ?_
  refine k_aload_n B 0 dX11_init_4 rfl ?_
  refine k_new B (ci := 7) (fs := [.null, .int 0]) (N := 2) k_7 ty_7 rfl xk_104 xk_105 x_73 (fun j hj => by rcases (show j = 0 ∨ j = 1 by omega) with rfl | rfl <;> rfl) (k2 := 1) (n2 := 2) rfl rfl ⟨by decide, by decide⟩ dX11_init_5 (fun q1 => ?_)
  refine k_dup B dX11_init_8 rfl ?_
  refine k_callN B (M := N_X7_init) q1 (c_X7_init D cI cZ cJ q1) n_X7_init (List.mem_of_getElem? (i := 0) rfl) pn_X7_init ⟨by decide, by decide⟩ (k2 := 2) (n2 := 742) rfl rfl ⟨by decide, by decide⟩ rfl (Nat.le_of_ble_eq_true rfl) dX11_init_9 ?_
  rintro w_ ⟨q1_1, rfl⟩
  refine k_putF C 0 k_11 ty_11 (by decide) rfl rfl x_500 rfl rfl (Nat.le_of_ble_eq_true rfl) (fs2 := [.ref q1, .null, .null, .null, .null, .null, .null, .null, .null, .null, .null, .int 0, .int 0]) rfl dX11_init_12 ?_
  refine k_aload_n B 0 dX11_init_15 rfl ?_
  refine k_new B (ci := 8) (fs := [.null, .int 0, .int 0, .int 0, .int 0, .int 0, .int 0, .int 0]) (N := 8) k_8 ty_8 rfl xk_123 xk_124 x_74 (fun j hj => by rcases (show j = 0 ∨ j = 1 ∨ j = 2 ∨ j = 3 ∨ j = 4 ∨ j = 5 ∨ j = 6 ∨ j = 7 by omega) with rfl | rfl | rfl | rfl | rfl | rfl | rfl | rfl <;> rfl) (k2 := 3) (n2 := 750) rfl rfl ⟨by decide, by decide⟩ dX11_init_16 (fun q2 => ?_)
  refine k_dup B dX11_init_19 rfl ?_
  refine k_aload_n B 0 dX11_init_20 rfl ?_
  refine k_get B 0 k_11 (by decide) x_500 (v := .ref q1) rfl dX11_init_21 ?_
  refine k_call B (M := N_X8_init) q2 [.ref q1] 1 (c_X8_init D cI cZ cJ q2 q1) n_X8_init x_125 pn_X8_init rfl ⟨by decide, by decide⟩ (k2 := 3) (n2 := 750) rfl rfl ⟨by decide, by decide⟩ rfl (Nat.le_of_ble_eq_true rfl) dX11_init_24 ?_
  rintro w_ ⟨rfl⟩
  refine k_putF C 1 k_11 ty_11 (by decide) rfl rfl x_501 rfl rfl (Nat.le_of_ble_eq_true rfl) (fs2 := [.ref q1, .ref q2, .null, .null, .null, .null, .null, .null, .null, .null, .null, .int 0, .int 0]) rfl dX11_init_27 ?_
  refine k_aload_n B 0 dX11_init_30 rfl ?_
  refine k_new B (ci := 9) (fs := [.null, .null, .int 0, .int 0]) (N := 4) k_9 ty_9 rfl xk_156 xk_157 x_75 (fun j hj => by rcases (show j = 0 ∨ j = 1 ∨ j = 2 ∨ j = 3 by omega) with rfl | rfl | rfl | rfl <;> rfl) (k2 := 4) (n2 := 754) rfl rfl ⟨by decide, by decide⟩ dX11_init_31 (fun q3 => ?_)
  refine k_dup B dX11_init_34 rfl ?_
  refine k_aload_n B 0 dX11_init_35 rfl ?_
  refine k_get B 1 k_11 (by decide) x_501 (v := .ref q2) rfl dX11_init_36 ?_
  refine k_call B (M := N_X9_init) q3 [.ref q2] 1 (c_X9_init D cI cZ cJ q3 q2) n_X9_init x_158 pn_X9_init rfl ⟨by decide, by decide⟩ (k2 := 12) (n2 := 883) rfl rfl ⟨by decide, by decide⟩ rfl (Nat.le_of_ble_eq_true rfl) dX11_init_39 ?_
  rintro w_ ⟨q3_1, q3_2, q3_3, q3_4, q3_5, q3_6, q3_7, q3_8, rfl⟩
  refine k_putF C 2 k_11 ty_11 (by decide) rfl rfl x_502 rfl rfl (Nat.le_of_ble_eq_true rfl) (fs2 := [.ref q1, .ref q2, .ref q3, .null, .null, .null, .null, .null, .null, .null, .null, .int 0, .int 0]) rfl dX11_init_42 ?_
  refine k_aload_n B 0 dX11_init_45 rfl ?_
  refine k_new B (ci := 3) (fs := [.null, .null]) (N := 2) k_3 ty_3 rfl xk_231 xk_232 x_77 (fun j hj => by rcases (show j = 0 ∨ j = 1 by omega) with rfl | rfl <;> rfl) (k2 := 13) (n2 := 885) rfl rfl ⟨by decide, by decide⟩ dX11_init_46 (fun q4 => ?_)
  refine k_dup B dX11_init_49 rfl ?_
  refine k_aload_n B 0 dX11_init_50 rfl ?_
  refine k_get B 1 k_11 (by decide) x_501 (v := .ref q2) rfl dX11_init_51 ?_
  refine k_call B (M := N_X3_init) q4 [.ref q2] 1 (c_X3_init D cI cZ cJ q4 q2) n_X3_init x_233 pn_X3_init rfl ⟨by decide, by decide⟩ (k2 := 17) (n2 := 950) rfl rfl ⟨by decide, by decide⟩ rfl (Nat.le_of_ble_eq_true rfl) dX11_init_54 ?_
  rintro w_ ⟨q4_1, q4_2, q4_3, q4_4, rfl⟩
  refine k_putF C 3 k_11 ty_11 (by decide) rfl rfl x_503 rfl rfl (Nat.le_of_ble_eq_true rfl) (fs2 := [.ref q1, .ref q2, .ref q3, .ref q4, .null, .null, .null, .null, .null, .null, .null, .int 0, .int 0]) rfl dX11_init_57 ?_
  refine k_aload_n B 0 dX11_init_60 rfl ?_
  refine k_new B (ci := 5) (fs := [.int 0, .int 0, .int 0, .null, .null, .null, .null, .null, .null, .null]) (N := 10) k_5 ty_5 rfl xk_271 xk_163 x_76 (fun j hj => by rcases (show j = 0 ∨ j = 1 ∨ j = 2 ∨ j = 3 ∨ j = 4 ∨ j = 5 ∨ j = 6 ∨ j = 7 ∨ j = 8 ∨ j = 9 by omega) with rfl | rfl | rfl | rfl | rfl | rfl | rfl | rfl | rfl | rfl <;> rfl) (k2 := 18) (n2 := 960) rfl rfl ⟨by decide, by decide⟩ dX11_init_61 (fun q5 => ?_)
  refine k_dup B dX11_init_64 rfl ?_
  refine k_callN B (M := N_X5_init) q5 (c_X5_init D cI cZ cJ q5) n_X5_init (List.mem_of_getElem? (i := 3) rfl) pn_X5_init ⟨by decide, by decide⟩ (k2 := 25) (n2 := 1079) rfl rfl ⟨by decide, by decide⟩ rfl (Nat.le_of_ble_eq_true rfl) dX11_init_65 ?_
  rintro w_ ⟨q5_1, q5_2, q5_3, q5_4, q5_5, q5_6, q5_7, rfl⟩
  refine k_putF C 4 k_11 ty_11 (by decide) rfl rfl x_504 rfl rfl (Nat.le_of_ble_eq_true rfl) (fs2 := [.ref q1, .ref q2, .ref q3, .ref q4, .ref q5, .null, .null, .null, .null, .null, .null, .int 0, .int 0]) rfl dX11_init_68 ?_
  refine k_aload_n B 0 dX11_init_71 rfl ?_
  refine k_new B (ci := 4) (fs := [.int 0, .int 0, .null, .null, .null]) (N := 5) k_4 ty_4 rfl xk_273 xk_238 x_78 (fun j hj => by rcases (show j = 0 ∨ j = 1 ∨ j = 2 ∨ j = 3 ∨ j = 4 by omega) with rfl | rfl | rfl | rfl | rfl <;> rfl) (k2 := 26) (n2 := 1084) rfl rfl ⟨by decide, by decide⟩ dX11_init_72 (fun q6 => ?_)
  refine k_dup B dX11_init_75 rfl ?_
  refine k_callN B (M := N_X4_init) q6 (c_X4_init D cI cZ cJ q6) n_X4_init (List.mem_of_getElem? (i := 4) rfl) pn_X4_init ⟨by decide, by decide⟩ (k2 := 29) (n2 := 1144) rfl rfl ⟨by decide, by decide⟩ rfl (Nat.le_of_ble_eq_true rfl) dX11_init_76 ?_
  rintro w_ ⟨q6_1, q6_2, q6_3, rfl⟩
  refine k_putF C 5 k_11 ty_11 (by decide) rfl rfl x_505 rfl rfl (Nat.le_of_ble_eq_true rfl) (fs2 := [.ref q1, .ref q2, .ref q3, .ref q4, .ref q5, .ref q6, .null, .null, .null, .null, .null, .int 0, .int 0]) rfl dX11_init_79 ?_
  refine k_aload_n B 0 dX11_init_82 rfl ?_
  refine k_new B (ci := 0) (fs := [.null, .null, .null, .null, .int 0, .int 0, .int 0, .int 0, .int 0, .int 0]) (N := 10) k_0 ty_0 rfl xk_275 xk_276 x_79 (fun j hj => by rcases (show j = 0 ∨ j = 1 ∨ j = 2 ∨ j = 3 ∨ j = 4 ∨ j = 5 ∨ j = 6 ∨ j = 7 ∨ j = 8 ∨ j = 9 by omega) with rfl | rfl | rfl | rfl | rfl | rfl | rfl | rfl | rfl | rfl <;> rfl) (k2 := 30) (n2 := 1154) rfl rfl ⟨by decide, by decide⟩ dX11_init_83 (fun q7 => ?_)
  refine k_dup B dX11_init_86 rfl ?_
  refine k_callN B (M := N_X0_init) q7 (c_X0_init D cI cZ cJ q7) n_X0_init (List.mem_of_getElem? (i := 5) rfl) pn_X0_init ⟨by decide, by decide⟩ (k2 := 34) (n2 := 1222) rfl rfl ⟨by decide, by decide⟩ rfl (Nat.le_of_ble_eq_true rfl) dX11_init_87 ?_
  rintro w_ ⟨q7_1, q7_2, q7_3, q7_4, rfl⟩
  refine k_putF C 6 k_11 ty_11 (by decide) rfl rfl x_506 rfl rfl (Nat.le_of_ble_eq_true rfl) (fs2 := [.ref q1, .ref q2, .ref q3, .ref q4, .ref q5, .ref q6, .ref q7, .null, .null, .null, .null, .int 0, .int 0]) rfl dX11_init_90 ?_
  refine k_aload_n B 0 dX11_init_93 rfl ?_
  refine k_new B (ci := 6) (fs := [.int 0, .int 0, .int 0, .int 0, .int 0, .int 0, .int 0]) (N := 7) k_6 ty_6 rfl xk_314 xk_315 x_80 (fun j hj => by rcases (show j = 0 ∨ j = 1 ∨ j = 2 ∨ j = 3 ∨ j = 4 ∨ j = 5 ∨ j = 6 by omega) with rfl | rfl | rfl | rfl | rfl | rfl | rfl <;> rfl) (k2 := 35) (n2 := 1229) rfl rfl ⟨by decide, by decide⟩ dX11_init_94 (fun q8 => ?_)
  refine k_dup B dX11_init_97 rfl ?_
  refine k_callN B (M := N_X6_init) q8 (c_X6_init D cI cZ cJ q8) n_X6_init (List.mem_of_getElem? (i := 6) rfl) pn_X6_init ⟨by decide, by decide⟩ (k2 := 35) (n2 := 1229) rfl rfl ⟨by decide, by decide⟩ rfl (Nat.le_of_ble_eq_true rfl) dX11_init_98 ?_
  rintro w_ ⟨rfl⟩
  refine k_putF C 7 k_11 ty_11 (by decide) rfl rfl x_507 rfl rfl (Nat.le_of_ble_eq_true rfl) (fs2 := [.ref q1, .ref q2, .ref q3, .ref q4, .ref q5, .ref q6, .ref q7, .ref q8, .null, .null, .null, .int 0, .int 0]) rfl dX11_init_101 ?_
  refine k_aload_n B 0 dX11_init_104 rfl ?_
  refine k_new B (ci := 10) (fs := [.null, .null, .null, .null, .null, .null, .null, .null, .null, .int 0, .null, .int 0, .int 0, .int 0]) (N := 14) k_10 ty_10 rfl xk_345 xk_346 x_81 (fun j hj => by rcases (show j = 0 ∨ j = 1 ∨ j = 2 ∨ j = 3 ∨ j = 4 ∨ j = 5 ∨ j = 6 ∨ j = 7 ∨ j = 8 ∨ j = 9 ∨ j = 10 ∨ j = 11 ∨ j = 12 ∨ j = 13 by omega) with rfl | rfl | rfl | rfl | rfl | rfl | rfl | rfl | rfl | rfl | rfl | rfl | rfl | rfl <;> rfl) (k2 := 36) (n2 := 1243) rfl rfl ⟨by decide, by decide⟩ dX11_init_105 (fun q9 => ?_)
  refine k_dup B dX11_init_108 rfl ?_
  refine k_aload_n B 0 dX11_init_109 rfl ?_
  refine k_get B 4 k_11 (by decide) x_504 (v := .ref q5) rfl dX11_init_110 ?_
  refine k_aload_n B 0 dX11_init_113 rfl ?_
  refine k_get B 5 k_11 (by decide) x_505 (v := .ref q6) rfl dX11_init_114 ?_
  refine k_call B (M := N_X10_init) q9 [.ref q5, .ref q6] 2 (c_X10_init D cI cZ cJ q9 q5 q6) n_X10_init x_347 pn_X10_init rfl ⟨by decide, by decide⟩ (k2 := 59) (n2 := 1564) rfl rfl ⟨by decide, by decide⟩ rfl (Nat.le_of_ble_eq_true rfl) dX11_init_117 ?_
  rintro w_ ⟨q9_1, q9_2, q9_3, q9_4, q9_5, q9_6, q9_7, q9_8, q9_9, q9_10, q9_11, q9_12, q9_13, q9_14, q9_15, q9_16, q9_17, q9_18, q9_19, q9_20, q9_21, q9_22, q9_23, rfl⟩
  refine k_putF C 8 k_11 ty_11 (by decide) rfl rfl x_508 rfl rfl (Nat.le_of_ble_eq_true rfl) (fs2 := [.ref q1, .ref q2, .ref q3, .ref q4, .ref q5, .ref q6, .ref q7, .ref q8, .ref q9, .null, .null, .int 0, .int 0]) rfl dX11_init_120 ?_
  refine k_aload_n B 0 dX11_init_123 rfl ?_
  refine k_new B (ci := 2) (fs := [.null, .null, .null, .null, .null, .null, .null, .int 0, .int 0, .null, .int 0, .int 0, .null, .null, .int 0, .int 0, .int 0, .int 0]) (N := 18) k_2 ty_2 rfl xk_400 xk_401 x_82 (fun j hj => by rcases (show j = 0 ∨ j = 1 ∨ j = 2 ∨ j = 3 ∨ j = 4 ∨ j = 5 ∨ j = 6 ∨ j = 7 ∨ j = 8 ∨ j = 9 ∨ j = 10 ∨ j = 11 ∨ j = 12 ∨ j = 13 ∨ j = 14 ∨ j = 15 ∨ j = 16 ∨ j = 17 by omega) with rfl | rfl | rfl | rfl | rfl | rfl | rfl | rfl | rfl | rfl | rfl | rfl | rfl | rfl | rfl | rfl | rfl | rfl <;> rfl) (k2 := 60) (n2 := 1582) rfl rfl ⟨by decide, by decide⟩ dX11_init_124 (fun q10 => ?_)
  refine k_dup B dX11_init_127 rfl ?_
  refine k_aload_n B 0 dX11_init_128 rfl ?_
  refine k_get B 4 k_11 (by decide) x_504 (v := .ref q5) rfl dX11_init_129 ?_
  refine k_aload_n B 0 dX11_init_132 rfl ?_
  refine k_get B 5 k_11 (by decide) x_505 (v := .ref q6) rfl dX11_init_133 ?_
  refine k_call B (M := N_X2_init) q10 [.ref q5, .ref q6] 2 (c_X2_init D cI cZ cJ q10 q5 q6) n_X2_init x_402 pn_X2_init rfl ⟨by decide, by decide⟩ (k2 := 79) (n2 := 2152) rfl rfl ⟨by decide, by decide⟩ rfl (Nat.le_of_ble_eq_true rfl) dX11_init_136 ?_
  rintro w_ ⟨q10_1, q10_2, q10_3, q10_4, q10_5, q10_6, q10_7, q10_8, q10_9, q10_10, q10_11, q10_12, q10_13, q10_14, q10_15, q10_16, q10_17, q10_18, q10_19, rfl⟩
  refine k_putF C 9 k_11 ty_11 (by decide) rfl rfl x_509 rfl rfl (Nat.le_of_ble_eq_true rfl) (fs2 := [.ref q1, .ref q2, .ref q3, .ref q4, .ref q5, .ref q6, .ref q7, .ref q8, .ref q9, .ref q10, .null, .int 0, .int 0]) rfl dX11_init_139 ?_
  refine k_aload_n B 0 dX11_init_142 rfl ?_
  refine k_new B (ci := 1) (fs := [.int 0, .null, .null, .null, .null, .int 0]) (N := 6) k_1 ty_1 rfl xk_468 xk_469 x_83 (fun j hj => by rcases (show j = 0 ∨ j = 1 ∨ j = 2 ∨ j = 3 ∨ j = 4 ∨ j = 5 by omega) with rfl | rfl | rfl | rfl | rfl | rfl <;> rfl) (k2 := 80) (n2 := 2158) rfl rfl ⟨by decide, by decide⟩ dX11_init_143 (fun q11 => ?_)
  refine k_dup B dX11_init_146 rfl ?_
  refine k_callN B (M := N_X1_init) q11 (c_X1_init D cI cZ cJ q11) n_X1_init (List.mem_of_getElem? (i := 12) rfl) pn_X1_init ⟨by decide, by decide⟩ (k2 := 84) (n2 := 2318) rfl rfl ⟨by decide, by decide⟩ rfl (Nat.le_of_ble_eq_true rfl) dX11_init_147 ?_
  rintro w_ ⟨q11_1, q11_2, q11_3, q11_4, rfl⟩
  refine k_putF C 10 k_11 ty_11 (by decide) rfl rfl x_510 rfl rfl (Nat.le_of_ble_eq_true rfl) (fs2 := [.ref q1, .ref q2, .ref q3, .ref q4, .ref q5, .ref q6, .ref q7, .ref q8, .ref q9, .ref q10, .ref q11, .int 0, .int 0]) rfl dX11_init_150 ?_
  refine k_aload_n B 0 dX11_init_153 rfl ?_
  refine k_iconst B (v := 0) dX11_init_154 (by decide) ?_
  refine k_put B 11 k_11 ty_11 (by decide) rfl x_511 rfl rfl (Nat.le_of_ble_eq_true rfl) (fs2 := [.ref q1, .ref q2, .ref q3, .ref q4, .ref q5, .ref q6, .ref q7, .ref q8, .ref q9, .ref q10, .ref q11, .int 0, .int 0]) rfl dX11_init_155 ?_
  refine k_aload_n B 0 dX11_init_158 rfl ?_
  refine k_iconst B (v := 0) dX11_init_159 (by decide) ?_
  refine k_put B 12 k_11 ty_11 (by decide) rfl x_512 rfl rfl (Nat.le_of_ble_eq_true rfl) (fs2 := [.ref q1, .ref q2, .ref q3, .ref q4, .ref q5, .ref q6, .ref q7, .ref q8, .ref q9, .ref q10, .ref q11, .int 0, .int 0]) rfl dX11_init_160 ?_
  refine k_aload_n B 0 dX11_init_163 rfl ?_
  refine k_get B 4 k_11 (by decide) x_504 (v := .ref q5) rfl dX11_init_164 ?_
  refine k_iconst B (v := 0) dX11_init_167 (by decide) ?_
  refine k_bipush B (v := 50) dX11_init_168 (by decide) ?_
  refine k_w (ws2 := wc (adL [[q7, q9_9, q9_14, q10_9], [q11], [q10], [q4], [q6, q4_1], [q5, q3_1, q9_1, q10_1], [q8, q9_19, q9_20], [q1], [q2], [q3], [q9], [h0], [], [q7_1, q9_10, q9_15, q10_10], [q7_2, q9_11, q9_16, q10_11], [q7_3, q9_12, q9_17, q10_12], [q7_4, q9_13, q9_18, q10_13], [q11_1], [q11_2], [q11_3], [q11_4], [q10_14], [q10_15], [q10_16], [q10_17], [q10_18], [q10_19], [q6_1, q4_2], [q6_2, q4_3], [q6_3, q4_4], [q5_1, q3_2, q9_2, q10_2], [q5_2, q3_3, q9_3, q10_3], [q5_3, q3_4, q9_4, q10_4], [q5_4, q3_5, q9_5, q10_5], [q5_5, q3_6, q9_6, q10_6], [q5_6, q3_7, q9_7, q10_7], [q5_7, q3_8, q9_8, q10_8], [q1_1], [q9_21], [q9_22], [q9_23]], cI, cZ, cJ, D, ULc) w0 z0) rfl ?_
  refine k_vV (E := (adL [[q7, q9_9, q9_14, q10_9], [q11], [q10], [q4], [q6, q4_1], [q5, q3_1, q9_1, q10_1], [q8, q9_19, q9_20], [q1], [q2], [q3], [q9], [h0], [], [q7_1, q9_10, q9_15, q10_10], [q7_2, q9_11, q9_16, q10_11], [q7_3, q9_12, q9_17, q10_12], [q7_4, q9_13, q9_18, q10_13], [q11_1], [q11_2], [q11_3], [q11_4], [q10_14], [q10_15], [q10_16], [q10_17], [q10_18], [q10_19], [q6_1, q4_2], [q6_2, q4_3], [q6_3, q4_4], [q5_1, q3_2, q9_2, q10_2], [q5_2, q3_3, q9_3, q10_3], [q5_3, q3_4, q9_4, q10_4], [q5_4, q3_5, q9_5, q10_5], [q5_5, q3_6, q9_6, q10_6], [q5_6, q3_7, q9_7, q10_7], [q5_7, q3_8, q9_8, q10_8], [q1_1], [q9_21], [q9_22], [q9_23]], cI, cZ, cJ, D, ULc)) B 5 0 [.int 0, .int 50] 2 (c_X5_addCar (adL [[q7, q9_9, q9_14, q10_9], [q11], [q10], [q4], [q6, q4_1], [q5, q3_1, q9_1, q10_1], [q8, q9_19, q9_20], [q1], [q2], [q3], [q9], [h0], [], [q7_1, q9_10, q9_15, q10_10], [q7_2, q9_11, q9_16, q10_11], [q7_3, q9_12, q9_17, q10_12], [q7_4, q9_13, q9_18, q10_13], [q11_1], [q11_2], [q11_3], [q11_4], [q10_14], [q10_15], [q10_16], [q10_17], [q10_18], [q10_19], [q6_1, q4_2], [q6_2, q4_3], [q6_3, q4_4], [q5_1, q3_2, q9_2, q10_2], [q5_2, q3_3, q9_3, q10_3], [q5_3, q3_4, q9_4, q10_4], [q5_4, q3_5, q9_5, q10_5], [q5_5, q3_6, q9_6, q10_6], [q5_6, q3_7, q9_7, q10_7], [q5_7, q3_8, q9_8, q10_8], [q1_1], [q9_21], [q9_22], [q9_23]], cI, cZ, cJ, D, ULc) (ULc_ok _ _ _ _ _) w0 z0 0 (by decide) 0 50 (by decide) (by decide)) m_X5_addCar x_496 x_497 x_498 p_X5_addCar rfl ⟨by decide, by decide⟩ (k2 := 84) (n2 := 2318) rfl rfl ⟨by decide, by decide⟩ (show (5, 0) ∈ ULc by decide) k_5 rfl (Nat.le_of_ble_eq_true rfl) dX11_init_170 ?_
  rintro u v he
  obtain ⟨rfl, rfl⟩ := Prod.mk.inj he
  exact k_ret C rfl rfl dX11_init_173 ⟨adL [[q7, q9_9, q9_14, q10_9], [q11], [q10], [q4], [q6, q4_1], [q5, q3_1, q9_1, q10_1], [q8, q9_19, q9_20], [q1], [q2], [q3], [q9], [h0], [], [q7_1, q9_10, q9_15, q10_10], [q7_2, q9_11, q9_16, q10_11], [q7_3, q9_12, q9_17, q10_12], [q7_4, q9_13, q9_18, q10_13], [q11_1], [q11_2], [q11_3], [q11_4], [q10_14], [q10_15], [q10_16], [q10_17], [q10_18], [q10_19], [q6_1, q4_2], [q6_2, q4_3], [q6_3, q4_4], [q5_1, q3_2, q9_2, q10_2], [q5_2, q3_3, q9_3, q10_3], [q5_3, q3_4, q9_4, q10_4], [q5_4, q3_5, q9_5, q10_5], [q5_5, q3_6, q9_6, q10_6], [q5_6, q3_7, q9_7, q10_7], [q5_7, q3_8, q9_8, q10_8], [q1_1], [q9_21], [q9_22], [q9_23]], rfl, rfl⟩
