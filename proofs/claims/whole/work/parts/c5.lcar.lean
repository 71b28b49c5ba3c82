/-! the law's two helpers: they take the throw -/
abbrev cL_car : ByteArray := method_3_code
abbrev cL_at : ByteArray := method_4_code
abbrev RLw : String := "TrainPipeLaw"
def yL_car : MethodName := ⟨RLw, "car", "(LTrainPipe;II[J)I"⟩
def yL_at : MethodName := ⟨RLw, "at", "(LTrainPipe;III[J)I"⟩
theorem DL_car_0 : decs cL_car [(0, .aload_n 3, 1), (1, .iconst 0, 1), (2, .aload_n 0, 1), (3, .iload_n 1, 1), (4, .iload_n 2, 1), (5, .invokevirtual 7, 3), (8, .i2l, 1), (9, .lastore, 1), (10, .goto 7, 3), (13, .astore 4, 2), (15, .iconst 1, 1), (16, .ireturn, 1), (17, .iconst 0, 1), (18, .ireturn, 1)] := by unfold decs; decide +kernel
theorem dL_car_0 : decode cL_car 0 = .ok (.aload_n 3, 1) := decs_at DL_car_0 0 rfl
theorem dL_car_1 : decode cL_car 1 = .ok (.iconst 0, 1) := decs_at DL_car_0 1 rfl
theorem dL_car_2 : decode cL_car 2 = .ok (.aload_n 0, 1) := decs_at DL_car_0 2 rfl
theorem dL_car_3 : decode cL_car 3 = .ok (.iload_n 1, 1) := decs_at DL_car_0 3 rfl
theorem dL_car_4 : decode cL_car 4 = .ok (.iload_n 2, 1) := decs_at DL_car_0 4 rfl
theorem dL_car_5 : decode cL_car 5 = .ok (.invokevirtual 7, 3) := decs_at DL_car_0 5 rfl
theorem dL_car_8 : decode cL_car 8 = .ok (.i2l, 1) := decs_at DL_car_0 6 rfl
theorem dL_car_9 : decode cL_car 9 = .ok (.lastore, 1) := decs_at DL_car_0 7 rfl
theorem dL_car_10 : decode cL_car 10 = .ok (.goto 7, 3) := decs_at DL_car_0 8 rfl
theorem dL_car_13 : decode cL_car 13 = .ok (.astore 4, 2) := decs_at DL_car_0 9 rfl
theorem dL_car_15 : decode cL_car 15 = .ok (.iconst 1, 1) := decs_at DL_car_0 10 rfl
theorem dL_car_16 : decode cL_car 16 = .ok (.ireturn, 1) := decs_at DL_car_0 11 rfl
theorem dL_car_17 : decode cL_car 17 = .ok (.iconst 0, 1) := decs_at DL_car_0 12 rfl
theorem dL_car_18 : decode cL_car 18 = .ok (.ireturn, 1) := decs_at DL_car_0 13 rfl
theorem DL_at_0 : decs cL_at [(0, .aload 4, 2), (2, .iconst 0, 1), (3, .aload_n 0, 1), (4, .iload_n 1, 1), (5, .iload_n 2, 1), (6, .iload_n 3, 1), (7, .invokevirtual 15, 3), (10, .i2l, 1), (11, .lastore, 1), (12, .goto 7, 3), (15, .astore 5, 2), (17, .iconst 1, 1), (18, .ireturn, 1), (19, .iconst 0, 1), (20, .ireturn, 1)] := by unfold decs; decide +kernel
theorem dL_at_0 : decode cL_at 0 = .ok (.aload 4, 2) := decs_at DL_at_0 0 rfl
theorem dL_at_2 : decode cL_at 2 = .ok (.iconst 0, 1) := decs_at DL_at_0 1 rfl
theorem dL_at_3 : decode cL_at 3 = .ok (.aload_n 0, 1) := decs_at DL_at_0 2 rfl
theorem dL_at_4 : decode cL_at 4 = .ok (.iload_n 1, 1) := decs_at DL_at_0 3 rfl
theorem dL_at_5 : decode cL_at 5 = .ok (.iload_n 2, 1) := decs_at DL_at_0 4 rfl
theorem dL_at_6 : decode cL_at 6 = .ok (.iload_n 3, 1) := decs_at DL_at_0 5 rfl
theorem dL_at_7 : decode cL_at 7 = .ok (.invokevirtual 15, 3) := decs_at DL_at_0 6 rfl
theorem dL_at_10 : decode cL_at 10 = .ok (.i2l, 1) := decs_at DL_at_0 7 rfl
theorem dL_at_11 : decode cL_at 11 = .ok (.lastore, 1) := decs_at DL_at_0 8 rfl
theorem dL_at_12 : decode cL_at 12 = .ok (.goto 7, 3) := decs_at DL_at_0 9 rfl
theorem dL_at_15 : decode cL_at 15 = .ok (.astore 5, 2) := decs_at DL_at_0 10 rfl
theorem dL_at_17 : decode cL_at 17 = .ok (.iconst 1, 1) := decs_at DL_at_0 11 rfl
theorem dL_at_18 : decode cL_at 18 = .ok (.ireturn, 1) := decs_at DL_at_0 12 rfl
theorem dL_at_19 : decode cL_at 19 = .ok (.iconst 0, 1) := decs_at DL_at_0 13 rfl
theorem dL_at_20 : decode cL_at 20 = .ok (.ireturn, 1) := decs_at DL_at_0 14 rfl
set_option maxRecDepth 100000 in
theorem xk_1153 : Cond.codeWith yL_car cL_car 5 (some .int) [(0, 10, 13, 13)] ∈ gtb := mem_g 1153 (by rfl) (by decide +kernel)
set_option maxRecDepth 100000 in
theorem xk_1230 : Cond.codeWith yL_at cL_at 6 (some .int) [(0, 12, 15, 13)] ∈ gtb := mem_g 1230 (by rfl) (by decide +kernel)
theorem xk_1154 : Cond.classLink RLw 13 NSE ∈ gtb := mem_g 1154 (by decide +kernel) (by decide +kernel)
abbrev RW (w : Wi) : RK := ((w 500 0 0), (w 501 0 0), (w 502 0 0), (w 30 0), (w 32 0), (w 33 0), (w 34 0), (w 35 0), (w 36 0))
abbrev LW (w : Wi) : LV := ((w 420 0 0), (w 421 0 0), (w 27 0), (w 28 0), (w 29 0))
def carV (w : Wi) (c wh : Int32) : Int32 := if 1 ≤ c ∧ c ≤ (w 500 0 0) then (if wh = 0 then (w 30 0) (c).toNatClampNeg else if wh = 1 then (w 31 0) (c).toNatClampNeg else if wh = 2 then (w 32 0) (c).toNatClampNeg else if wh = 3 then (w 33 0) (c).toNatClampNeg else if wh = 4 then (w 34 0) (c).toNatClampNeg else if wh = 5 then (w 35 0) (c).toNatClampNeg else if wh = 6 then (w 36 0) (c).toNatClampNeg else (-1)) else (-1)
def okCw (w : Wi) (c wh : Int32) : Prop := (1 ≤ c ∧ c ≤ w 500 0 0) ∧ 0 ≤ wh ∧ wh ≤ 6
def okAw (w : Wi) (ti ce wh : Int32) : Prop := (0 ≤ ti ∧ ti ≤ 600) ∧ (wh = 0 ∧ (ce = 0 ∨ 1 ≤ ce ∧ ce ≤ w 500 0 0) ∨ (wh = 1 ∨ wh = 2) ∧ 1 ≤ ce ∧ ce ≤ w 500 0 0)
def atW (w : Wi) (ti ce wh : Int32) : Int32 := atV (itA (RW w) (LW w) (ti).toNatClampNeg (st0 (w 501 0 0))) wh ce
def PL_car (w : Wi) (z : Wj) (c wh : Int32) : Int32 → WW → Prop := fun r u => (okCw w c wh ∧ r = 0 ∧ u = (w, wS z 72 0 (vp_updL (z 72 0) 0 (carV w c wh).toInt64))) ∨ (¬ okCw w c wh ∧ r = 1 ∧ u = (w, z))
def PL_at (w : Wi) (z : Wj) (ti ce wh : Int32) : Int32 → WW → Prop := fun r u => (okAw w ti ce wh ∧ r = 0 ∧ ∃ uh : Wi, u = (wB w SCA uh, wS z 72 0 (vp_updL (z 72 0) 0 (atW w ti ce wh).toInt64))) ∨ (¬ okAw w ti ce wh ∧ r = 1 ∧ u = (w, z))
theorem mx_good {M : Md} (h : Cond.code M.1 M.2.1 M.2.2.1 M.2.2.2.1 ∈ gtb) : GoodIn gtb M.w := by
  intro w hw
  have : w ∈ gtb := (List.mem_cons.mp hw).elim (fun e => e ▸ h) id
  exact ⟨this, good_of_word (List.mem_filter.mp this).2⟩
section LX
variable {K : Pk} {E : En} {A : Nat → Prop} {cc : ByteArray} {nL : Nat} {own : String} {ret : Option FieldType} {rm : Room} {Q : State → Prop} {pc : Nat} {lv : List (Nat × Value)} {st : List Value} {w : Wi} {z : Wj}
/-- a call that throws -/
theorem v_vX (C : Cx K E A cc nL own ret rm) (SO : SOK E A K.s) (TX : TXK A K.s) (hl0 : K.l.stackTraces = false) {M : Md} {index : Nat} {rest : List Value} (t a : Nat) (As : List Value) (n : Nat) (hc : CtX M E (.ref (E.ad t a) :: As) w z) (hm1 : M.2.2.2.2.cells = 1 ∧ M.2.2.2.2.slots = 6) (hcode : Cond.code M.1 M.2.1 M.2.2.1 M.2.2.2.1 ∈ gtb) (hini : Cond.initialized M.1.cls ∈ gtb) (hl : Cond.methodLink own index M.1 ∈ gtb) (hi : Cond.instanceMethod M.1 ∈ gtb) (hse : Cond.selects M.1.cls M.1 M.1 ∈ gtb) (hy : M.1.cls ≠ "java/lang/invoke/MethodHandle" ∧ M.1.cls ≠ "java/lang/invoke/VarHandle" ∧ (parseMethodDescriptor M.1.desc).map (fun d => d.parameters.length) = some n) (hn : As.length = n) (hR : M.2.2.2.2.frames + 1 ≤ rm.frames ∧ 8 + (M.2.2.1 + 11) + M.2.2.2.2.locals ≤ rm.locals) (hRc : 1 ≤ rm.cells ∧ 6 ≤ rm.slots) (hm : (t, a) ∈ E.U) {T : u_T} (hcl : q_cl t M.1.cls T) (hst : st = As.reverse ++ .ref (E.ad t a) :: rest) (hr : (rest.map fun v => v.category).sum ≤ 8) (d : decode cc pc = .ok (.invokevirtual index, 3))
    (kx : ∀ (q : Addr) (ce : Cell) (H : Heap) (locs : List Loc) (ls : Array Slot), lv_has ls nL lv → va_P E.D classes (wc E w z) H → va_D A (wc E w z) → va_S A K.s.heap H locs → H[q]? = some ce → ce.vm = .none → K.s.vm.findClass NSE = some ce.cls → vx_W K.1 K.l K.2.2.1 K.R K.s K.m K.args K.below K.meth K.c H locs 1 6 Q (F0 K.m pc ls rest) q) : V K E A nL Q pc lv st w z := by
  intro H locs ls hls hP hD hS
  have hR2 := C.2.2.2.2.2.2.2.2.2.1
  obtain ⟨j, -, hj⟩ := wc_at (w := w) (z := z) hm
  rw [show q_e E w z t a = .inr (t, (List.range (q_N t)).map (q_fv E w z t a)) from if_pos hcl.1] at hj
  have hF := q_free C hD hS
  have ht := C.2.2.2.2.1
  refine vx_calli (vx_runV (Ts := gtb) (As := As) (rest := rest) (C := M.1.cls) ⟨C.1, C.2.1, C.2.2.1, C.2.2.2.1, ht⟩ (hc K.l hl0 H.size) ⟨callB_of n ht (mx_good hcode) rfl hm1.1 hm1.2 (ht _ hini) (ht _ hl) hy (by rw [hR2]; exact hR), ht _ hi, ht _ hse⟩ ⟨q_blindX _ _ _ _ _, va_recv C.2.2.2.2.2.1 hP hcl.2.1 hj, fun U hU hW => ⟨⟨⟨rfl, by rw [hU], by rw [hU]; exact hP, va_K.moved hW.alike C.2.2.2.2.2.1, hD.weaken (fun _ _ _ _ => trivial)⟩, SOK.call SO (by rw [hU]; exact hS) hW hF⟩, TXK.call TX (by rw [hU]; exact hS) hW hF⟩⟩ rfl hn hls.1 hst (lv_room hr) d ⟨by rw [hR2]; exact hRc.1, by rw [hR2]; exact hRc.2⟩) hS (fun q _ h => hF q h) hF (fun q _ h => hF q h) (fun X ce q9 u t' H1 locs1 hth hvm _ hB hz1 hk1 hS1 hce hcv hcc => ?_) (fun r u t' H1 locs1 ht hvm hw => hw.elim)
  obtain ⟨rfl, hP1, hK1, hD1⟩ := hB
  rw [hth] at hP1
  exact kx q9 ce H1 locs1 ls hls hP1 (hD1.weaken (fun _ _ _ h => hF _ h)) hS1 hce hcv hcc
theorem v_iretL (C : Cx K E A cc nL own (some .int) rm) {v : Int32} {post : Int32 → WW → Prop} (d : decode cc pc = .ok (.ireturn, 1)) (h : post v (w, z)) : V K E A nL (MQ K.below (va_Qi post (q_B E A) A) K.args K.s 1 6 A) pc lv [.int v] w z := by
  intro H locs ls hls hP hD hS
  refine W.widen (k := 1) (n := 6) (by omega) (by omega) ?_
  exact W.iret C.1 C.2.1 C.2.2.2.2.2.2.2.1 (fun t ht hW => ⟨⟨v, (w, z), rfl, h, by rw [ht]; exact hP, va_K.moved hW.alike C.2.2.2.2.2.1, hD⟩, hS.F ht⟩) hS.2.2 d C.2.2.2.2.2.2.2.2.1
end LX
theorem c_L_car (E : En) (hE : q_ok E) (hO : (72, 0) ∈ E.U) (w : Wi) (z : Wj) (c wh : Int32) (h16 : w 500 0 0 ≤ 16) (l : Launch) (hl0 : l.stackTraces = false) (sz : Nat) : Met l yL_car (Cond.codeWith yL_car cL_car 5 (some .int) [(0, 10, 13, 13)] :: gtb) { frames := 7, cells := 1, slots := 6, locals := 240 } (q_PreX E w z [.ref (E.ad 11 0), .int c, .int wh, .ref (E.ad 72 0)] sz) (va_Qi (PL_car w z c wh) (q_B E (va_A (wc E w z) sz)) (va_A (wc E w z) sz)) 1 6 (va_A (wc E w z) sz) := by
  refine va_MetW (cc := cL_car) (maxL := 5) (ret := some .int) (hh := [(0, 10, 13, 13)]) (by decide) rfl ?_
  intro p e s m args below meth c9 s₁ B hml hv
  obtain ⟨⟨⟨rfl, hsz, hP, hK, hD0⟩, SO⟩, TX⟩ := hv
  have hts := atoms_spec (ws := Cond.codeWith yL_car cL_car 5 (some .int) [(0, 10, 13, 13)] :: gtb) B.pre
  have hown : s.vm.findClass RLw = some m.cls := findClass_of_methodNamed B.named
  have htab : c9.exceptionTable.toList = tableOf [(0, 10, 13, 13)] := vx_table (x := yL_car) B (hts _ List.mem_cons_self)
  subst hsz
  have hD := hD0.self (sz := s.heap.size)
  have hlv := lv_entry [.ref (E.ad 11 0), .int c, .int wh, .ref (E.ad 72 0)] (n := 5) (Nat.le_of_ble_eq_true rfl)
  rw [lg_entry_eq]
  obtain ⟨K, hK9⟩ : ∃ K : Pk, K = (p, l, e, { frames := 7, cells := 1, slots := 6, locals := 240 }, s, m, #[.ref (E.ad 11 0), .int c, .int wh, .ref (E.ad 72 0)], below, meth, c9) := ⟨_, rfl⟩
  obtain ⟨A, hA9⟩ : ∃ A : Nat → Prop, A = va_A (wc E w z) s.heap.size := ⟨_, rfl⟩
  have C : Cx K E A cL_car 5 RLw (some .int) { frames := 7, cells := 1, slots := 6, locals := 240 } := by
    rw [hK9, hA9]
    exact ⟨B.exec, B.bytes, hml, hown, fun w h => hts w (List.mem_cons_of_mem _ h), hK, fun q h => Or.inr h, B.returns, B.notSynchronized, rfl, hE⟩
  have SO9 : SOK E A K.s := by rw [hK9, hA9]; exact SO
  have TX9 : TXK A K.s := by rw [hK9, hA9]; exact TX
  have hl9 : K.l.stackTraces = false := by rw [hK9]; exact hl0
  have htab9 : K.c.exceptionTable.toList = tableOf [(0, 10, 13, 13)] := by rw [hK9]; exact htab
  have main : V K E A 5 (MQ K.below (va_Qi (PL_car w z c wh) (q_B E A) A) K.args K.s 1 6 A) 0 [(0, .ref (E.ad 11 0)), (1, .int c), (2, .int wh), (3, .ref (E.ad 72 0))] [] w z := by
    refine v_aload_n C 3 dL_car_0 rfl ?_
    refine v_iconst (v := 0) C dL_car_1 (by decide) ?_
    refine v_aload_n C 0 dL_car_2 rfl ?_
    refine v_iload_n C 1 dL_car_3 rfl ?_
    refine v_iload_n C 2 dL_car_4 rfl ?_
    by_cases hc : okCw w c wh
    · refine v_vI C 11 0 [.int c, .int wh] 2 (c_X11_car E hE w z c wh h16 hc.1 hc.2.1 hc.2.2) m_X11_car x_1155 x_1156 x_1157 p_X11_car rfl ⟨Nat.le_of_ble_eq_true rfl, Nat.le_of_ble_eq_true rfl⟩ (C_m C (u_11 0 (by decide))) k_11 rfl (Nat.le_of_ble_eq_true rfl) dL_car_5 (fun r u v hp => ?_)
      obtain ⟨hr, hu⟩ := hp
      cases hu
      refine v_i2l C dL_car_8 ?_
      refine v_last C 72 0 (n := 1) hO ⟨by decide, rfl, rfl⟩ (vp_x (by decide) (by decide) (by decide)) dL_car_9 ?_
      refine v_goto C 17 dL_car_10 (by decide) ?_
      refine v_iconst (v := 0) C dL_car_17 (by decide) ?_
      exact v_iretL C dL_car_18 (Or.inl ⟨hc, rfl, by rw [hr]; rfl⟩)
    · refine v_vX C SO9 TX9 hl9 (M := MX_car) (rest := [.int 0, .ref (E.ad 72 0)]) 11 0 [.int c, .int wh] 2 (x_car_t E hE w z c wh hc) ⟨rfl, rfl⟩ x_1158 x_72 x_1155 x_1156 x_1157 ⟨by decide, by decide, by decide +kernel⟩ rfl ⟨Nat.le_of_ble_eq_true rfl, Nat.le_of_ble_eq_true rfl⟩ ⟨by decide, by decide⟩ (C_m C (u_11 0 (by decide))) k_11 rfl (Nat.le_of_ble_eq_true rfl) dL_car_5 (fun q ce H locs ls hls hP hD hS hce hcv hcc => ?_)
      refine vq_catch (own := RLw) (name := NSE) C.2.2.2.1 _ htab9 rfl (by decide) (C.2.2.2.2.1 _ xk_1154) (va_Nw.use rfl TX9.1.1) hce hcv hcc ?_
      refine lv_astore C.1 C.2.1 dL_car_13 hls (by decide) rfl (fun ls2 hl3 => ?_)
      refine lv_iconst C.1 C.2.1 dL_car_15 (show Int32.ofInt 1 = 1 by decide) ?_
      exact W.iret C.1 C.2.1 C.2.2.2.2.2.2.2.1 (fun t ht hW => ⟨⟨1, (w, z), rfl, Or.inr ⟨hc, rfl, rfl⟩, by rw [ht]; exact hP, va_K.moved hW.alike C.2.2.2.2.2.1, hD⟩, hS.F ht⟩) hS.2.2 dL_car_16 C.2.2.2.2.2.2.2.2.1
  subst hK9
  subst hA9
  exact main s.heap [] _ hlv hP hD va_S.rf
theorem c_L_at (E : En) (hE : q_ok E) (hO : (72, 0) ∈ E.U) (w : Wi) (z : Wj) (ti ce wh : Int32) (h0 : 0 ≤ w 500 0 0) (h16 : w 500 0 0 ≤ 16) (l : Launch) (hl0 : l.stackTraces = false) (sz : Nat) : Met l yL_at (Cond.codeWith yL_at cL_at 6 (some .int) [(0, 12, 15, 13)] :: gtb) { frames := 7, cells := 1, slots := 6, locals := 240 } (q_PreX E w z [.ref (E.ad 11 0), .int ti, .int ce, .int wh, .ref (E.ad 72 0)] sz) (va_Qi (PL_at w z ti ce wh) (q_B E (va_A (wc E w z) sz)) (va_A (wc E w z) sz)) 1 6 (va_A (wc E w z) sz) := by
  refine va_MetW (cc := cL_at) (maxL := 6) (ret := some .int) (hh := [(0, 12, 15, 13)]) (by decide) rfl ?_
  intro p e s m args below meth c9 s₁ B hml hv
  obtain ⟨⟨⟨rfl, hsz, hP, hK, hD0⟩, SO⟩, TX⟩ := hv
  have hts := atoms_spec (ws := Cond.codeWith yL_at cL_at 6 (some .int) [(0, 12, 15, 13)] :: gtb) B.pre
  have hown : s.vm.findClass RLw = some m.cls := findClass_of_methodNamed B.named
  have htab : c9.exceptionTable.toList = tableOf [(0, 12, 15, 13)] := vx_table (x := yL_at) B (hts _ List.mem_cons_self)
  subst hsz
  have hD := hD0.self (sz := s.heap.size)
  have hlv := lv_entry [.ref (E.ad 11 0), .int ti, .int ce, .int wh, .ref (E.ad 72 0)] (n := 6) (Nat.le_of_ble_eq_true rfl)
  rw [lg_entry_eq]
  obtain ⟨K, hK9⟩ : ∃ K : Pk, K = (p, l, e, { frames := 7, cells := 1, slots := 6, locals := 240 }, s, m, #[.ref (E.ad 11 0), .int ti, .int ce, .int wh, .ref (E.ad 72 0)], below, meth, c9) := ⟨_, rfl⟩
  obtain ⟨A, hA9⟩ : ∃ A : Nat → Prop, A = va_A (wc E w z) s.heap.size := ⟨_, rfl⟩
  have C : Cx K E A cL_at 6 RLw (some .int) { frames := 7, cells := 1, slots := 6, locals := 240 } := by
    rw [hK9, hA9]
    exact ⟨B.exec, B.bytes, hml, hown, fun w h => hts w (List.mem_cons_of_mem _ h), hK, fun q h => Or.inr h, B.returns, B.notSynchronized, rfl, hE⟩
  have SO9 : SOK E A K.s := by rw [hK9, hA9]; exact SO
  have TX9 : TXK A K.s := by rw [hK9, hA9]; exact TX
  have hl9 : K.l.stackTraces = false := by rw [hK9]; exact hl0
  have htab9 : K.c.exceptionTable.toList = tableOf [(0, 12, 15, 13)] := by rw [hK9]; exact htab
  have main : V K E A 6 (MQ K.below (va_Qi (PL_at w z ti ce wh) (q_B E A) A) K.args K.s 1 6 A) 0 [(0, .ref (E.ad 11 0)), (1, .int ti), (2, .int ce), (3, .int wh), (4, .ref (E.ad 72 0))] [] w z := by
    refine v_aload C 4 dL_at_0 rfl ?_
    refine v_iconst (v := 0) C dL_at_2 (by decide) ?_
    refine v_aload_n C 0 dL_at_3 rfl ?_
    refine v_iload_n C 1 dL_at_4 rfl ?_
    refine v_iload_n C 2 dL_at_5 rfl ?_
    refine v_iload_n C 3 dL_at_6 rfl ?_
    by_cases hc : okAw w ti ce wh
    · refine v_vI C 11 0 [.int ti, .int ce, .int wh] 3 (c_X11_at E hE w z ti ce wh h0 h16 hc.1.1 hc.1.2 hc.2) m_X11_at x_1231 x_1232 x_1233 p_X11_at rfl ⟨Nat.le_of_ble_eq_true rfl, Nat.le_of_ble_eq_true rfl⟩ (C_m C (u_11 0 (by decide))) k_11 rfl (Nat.le_of_ble_eq_true rfl) dL_at_7 (fun r u v hp => ?_)
      obtain ⟨uh, hr, hu⟩ := hp
      cases hu
      refine v_i2l C dL_at_10 ?_
      refine v_last C 72 0 (n := 1) hO ⟨by decide, rfl, rfl⟩ (vp_x (by decide) (by decide) (by decide)) dL_at_11 ?_
      refine v_goto C 19 dL_at_12 (by decide) ?_
      refine v_iconst (v := 0) C dL_at_19 (by decide) ?_
      exact v_iretL C dL_at_20 (Or.inl ⟨hc, rfl, uh, by rw [hr]; rfl⟩)
    · refine v_vX C SO9 TX9 hl9 (M := MX_at) (rest := [.int 0, .ref (E.ad 72 0)]) 11 0 [.int ti, .int ce, .int wh] 3 (x_at_t E hE w z ti ce wh hc) ⟨rfl, rfl⟩ x_1234 x_72 x_1231 x_1232 x_1233 ⟨by decide, by decide, by decide +kernel⟩ rfl ⟨Nat.le_of_ble_eq_true rfl, Nat.le_of_ble_eq_true rfl⟩ ⟨by decide, by decide⟩ (C_m C (u_11 0 (by decide))) k_11 rfl (Nat.le_of_ble_eq_true rfl) dL_at_7 (fun q ce9 H locs ls hls hP hD hS hce hcv hcc => ?_)
      refine vq_catch (own := RLw) (name := NSE) C.2.2.2.1 _ htab9 rfl (by decide) (C.2.2.2.2.1 _ xk_1154) (va_Nw.use rfl TX9.1.1) hce hcv hcc ?_
      refine lv_astore C.1 C.2.1 dL_at_15 hls (by decide) rfl (fun ls2 hl3 => ?_)
      refine lv_iconst C.1 C.2.1 dL_at_17 (show Int32.ofInt 1 = 1 by decide) ?_
      exact W.iret C.1 C.2.1 C.2.2.2.2.2.2.2.1 (fun t ht hW => ⟨⟨1, (w, z), rfl, Or.inr ⟨hc, rfl, rfl⟩, by rw [ht]; exact hP, va_K.moved hW.alike C.2.2.2.2.2.1, hD⟩, hS.F ht⟩) hS.2.2 dL_at_18 C.2.2.2.2.2.2.2.2.1
  subst hK9
  subst hA9
  exact main s.heap [] _ hlv hP hD va_S.rf
