/-! car and at where they throw -/
def TXK (A : Nat → Prop) (U : State) : Prop := (va_Nw (.castable NSE NSE) U ∧ va_Nw (.declares (Bundle.initS RTE)) U ∧ va_Nw (.declares (Bundle.initS EXC)) U ∧ va_Nw (.declares (Bundle.initS Bundle.tN)) U) ∧ vx_Zq Bundle.tN "UNASSIGNED_STACK" Bundle.steD A U U.heap ∧ vx_Zq Bundle.tN "SUPPRESSED_SENTINEL" Bundle.listD A U U.heap
theorem TXK.call {A B : Nat → Prop} {s U : State} {locs : List Loc} (h : TXK A s) (hS : va_S A s.heap U.heap locs) (hW : s.WarmedH U.vm) (hAB : ∀ q, B q → A q) : TXK B U :=
  ⟨⟨va_Nw.warmC hW h.1.1, va_Nw.warmD hW h.1.2.1, va_Nw.warmD hW h.1.2.2.1, va_Nw.warmD hW h.1.2.2.2⟩, (vx_Zq.moved hW.alike (h.2.1.kept hS.2.1)).narrow hAB, (vx_Zq.moved hW.alike (h.2.2.kept hS.2.1)).narrow hAB⟩
def q_PreX (E : En) (w : Wi) (z : Wj) (As : List Value) (sz : Nat) : Array Value → State → Prop := fun a U => q_PreS E w z As sz a U ∧ TXK (va_A (wc E w z) sz) U
theorem q_blindX (E : En) (w : Wi) (z : Wj) (As : List Value) (sz : Nat) : FrameBlind (q_PreX E w z As sz) := fun a U g mk q =>
  ⟨q_blindS E w z As sz a U g mk q.1, ⟨va_Nw.same rfl rfl q.2.1.1, va_Nw.same rfl rfl q.2.1.2.1, va_Nw.same rfl rfl q.2.1.2.2.1, va_Nw.same rfl rfl q.2.1.2.2.2⟩, vx_Zq.moved (Vm.Alike.refl U.vm) q.2.2.1, vx_Zq.moved (Vm.Alike.refl U.vm) q.2.2.2⟩
/-- what holds where it has thrown: the world is as it was -/
def XCt (E : En) (w : Wi) (z : Wj) (A : Nat → Prop) : String → State → State → Prop := vx_X (fun _ : Unit => True) (fun En _ t => En = NSE ∧ q_B E A (w, z) t) A
def CtX (M : Md) (E : En) (As : List Value) (w : Wi) (z : Wj) : Prop := ∀ (l : Launch), l.stackTraces = false → ∀ (sz : Nat), vx_Met l M.1 M.w M.2.2.2.2 (q_PreX E w z As sz) (va_Qi (fun (_ : Int32) (_ : WW) => False) (q_B E (va_A (wc E w z) sz)) (va_A (wc E w z) sz)) (XCt E w z (va_A (wc E w z) sz)) 1 6 (va_A (wc E w z) sz)
theorem ctX_of {M : Md} {E : En} {As : List Value} {w : Wi} {z : Wj} {lv : List (Nat × Value)} (hE : q_ok E) (hy : plainName M.1.cls = true) (hn : (lg_sl As).length ≤ M.2.2.1) (hlv : lv_args 0 As = lv) (h : ∀ (K : Pk) (A : Nat → Prop), Cx K E A M.2.1 M.2.2.1 M.1.cls M.2.2.2.1 M.2.2.2.2 → SOK E A K.s → TXK A K.s → K.l.stackTraces = false → (∀ x ∈ K.c.exceptionTable.toList, False) → V K E A M.2.2.1 (vx_MQ K.below (va_Qi (fun (_ : Int32) (_ : WW) => False) (q_B E A) A) (XCt E w z A) K.args K.s 1 6 A) 0 lv [] w z) : CtX M E As w z := by
  intro l hl0 sz
  refine vx_ofW (cc := M.2.1) (maxL := M.2.2.1) (ret := M.2.2.2.1) hy rfl ?_
  intro p e s m args below meth c s₁ B hml htab hv
  obtain ⟨⟨⟨rfl, hsz, hP, hK, hD0⟩, hSO⟩, hTX⟩ := hv
  have hts := atoms_spec (ws := M.w) B.pre
  have hown : s.vm.findClass M.1.cls = some m.cls := findClass_of_methodNamed B.named
  subst hsz
  have hD := hD0.self (sz := s.heap.size)
  have hl := lv_entry As (n := M.2.2.1) hn
  rw [lg_entry_eq]
  rw [hlv] at hl
  exact h (p, l, e, (headSpec M.w M.2.2.2.2).room, s, m, As.toArray, below, meth, c) (va_A (wc E w z) s.heap.size) ⟨B.exec, B.bytes, hml, hown, fun w h => hts w (List.mem_cons_of_mem _ h), hK, fun q h => Or.inr h, B.returns, B.notSynchronized, rfl, hE⟩ hSO hTX hl0 htab s.heap [] _ hl hP hD va_S.rf
section TW
variable {K : Pk} {E : En} {A : Nat → Prop} {cc : ByteArray} {nL : Nat} {rm : Room} {Q : State → Prop} {pc : Nat} {lv : List (Nat × Value)} {w : Wi} {z : Wj}
theorem v_throw {Qc : Array Value → State → Outcome → State → Prop} (C : Cx K E A cc nL RX11 (some .int) rm) (SO : SOK E A K.s) (TX : TXK A K.s) (hl : K.l.stackTraces = false) (htab : ∀ x ∈ K.c.exceptionTable.toList, False) {i is : Nat} {text : String} (ht : (RX11, is, text, i) ∈ litT) (hR : 6 ≤ rm.frames ∧ 100 ≤ rm.locals ∧ 1 ≤ rm.cells ∧ 6 ≤ rm.slots) (d0 : decode cc pc = .ok (.new 144, 3)) (d3 : decode cc (pc + 3) = .ok (.dup, 1)) (d4 : decode cc (pc + 4) = .ok (.ldc is, 2)) (d6 : decode cc (pc + 6) = .ok (.invokespecial 148, 3)) (d9 : decode cc (pc + 9) = .ok (.athrow, 1)) : V K E A nL (vx_MQ K.below Qc (XCt E w z A) K.args K.s 1 6 A) pc lv [] w z := by
  intro H locs ls hls hP hD hS
  have hR2 := C.2.2.2.2.2.2.2.2.2.1
  have hat : ∀ w ∈ ATS, w.before K.args K.s = true := vx_hat (fun w hw => C.2.2.2.2.1 w (ats_g w hw)) ats_n (vx_c (va_Nw.use rfl TX.1.1) (vx_c (va_Nw.use rfl TX.1.2.1) (vx_c (va_Nw.use rfl TX.1.2.2.1) (vx_c (va_Nw.use rfl TX.1.2.2.2) vx_n))))
  refine vq_throw (text := text) (sa := E.ad 69 i) C.1 C.2.1 hl C.2.2.2.1 (C.2.2.2.2.1 _ xk_1159) (C.2.2.2.2.1 _ x_94) (SO.2.1 _ ht) hat TX.2.1 TX.2.2 hS (hls.1.trans C.2.2.1.symm) d0 d3 d4 d6 d9 (fun x hx => (htab x hx).elim) (by rw [hR2]; exact hR.1) (by rw [hR2]; show 0 + 82 ≤ rm.locals; omega) (by rw [hR2]; exact hR.2.2.1) (by rw [hR2]; exact hR.2.2.2) C.2.2.2.2.2.2.2.2.1 (fun t hvm hz hk => ?_) hS.2.2 (Nat.le_refl _) (Nat.le_refl _)
  have hkept : ∀ (k : Nat) (q : Nat × va_E), (wc E w z)[k]? = some q → t.heap[q.1]? = H[q.1]? := fun k q h => hk q.1 (hP k q h).lt
  exact ⟨(), trivial, ⟨rfl, hP.kept hkept, va_K.moved hvm C.2.2.2.2.2.1, hD⟩, Nat.le_trans hS.1 hz, fun q h1 h2 => (hk q (Nat.lt_of_lt_of_le h1 hS.1)).trans (hS.2.1 q h1 h2)⟩
theorem tw_car (C : Cx K E A cX11_car 3 RX11 (some .int) rm) (hE : q_ok E) (hR : M_X5_has.2.2.2.2.frames + 1 ≤ rm.frames ∧ 8 + (M_X5_has.2.2.1 + 11) + M_X5_has.2.2.2.2.locals ≤ rm.locals) {c wh : Int32} (h : ¬ ((1 ≤ c ∧ c ≤ w 500 0 0) ∧ 0 ≤ wh ∧ wh ≤ 6)) (kk : V K E A 3 Q 21 [(0, .ref (E.ad 11 0)), (1, .int c), (2, .int wh)] [] w z) : V K E A 3 Q 0 [(0, .ref (E.ad 11 0)), (1, .int c), (2, .int wh)] [] w z := by
  refine v_aload_n C 0 dX11_car_0 rfl ?_
  refine v_gR C 11 0 4 5 0 (C_m C (u_11 0 (by decide))) k_11 (by decide) x_504 (fun _ _ _ => rfl) dX11_car_1 ?_
  refine v_iload_n C 1 dX11_car_4 rfl ?_
  refine v_vI C 5 0 [.int c] 1 (c_X5_has E hE _ _ 0 (by decide) c) m_X5_has x_786 x_710 x_711 p_X5_has rfl hR (C_m C (u_5 0 (by decide))) k_5 rfl (Nat.le_of_ble_eq_true rfl) dX11_car_5 (fun r1 u1 v1 hp1 => ?_)
  obtain ⟨hr1, hu1⟩ := hp1
  subst hr1
  cases hu1
  refine v_if_eq C 21 dX11_car_8 (by decide) (fun _ => kk) (fun c_8 => ?_)
  refine v_iload_n C 2 dX11_car_11 rfl ?_
  refine v_if_lt C 21 dX11_car_12 (by decide) (fun _ => kk) (fun c_12 => ?_)
  refine v_iload_n C 2 dX11_car_15 rfl ?_
  refine v_bipush (v := 6) C dX11_car_16 (by decide) ?_
  refine v_ic_le C 31 dX11_car_18 (by decide) (fun c_18 => absurd ?_ h) (fun _ => kk)
  clear C kk
  grind
theorem tw_at (C : Cx K E A cX11_at 6 RX11 (some .int) rm) (hE : q_ok E) (hR : M_X5_has.2.2.2.2.frames + 1 ≤ rm.frames ∧ 8 + (M_X5_has.2.2.1 + 11) + M_X5_has.2.2.2.2.locals ≤ rm.locals) {ti ce wh : Int32} (h : ¬ ((0 ≤ ti ∧ ti ≤ 600) ∧ (wh = 0 ∧ (ce = 0 ∨ 1 ≤ ce ∧ ce ≤ w 500 0 0) ∨ (wh = 1 ∨ wh = 2) ∧ 1 ≤ ce ∧ ce ≤ w 500 0 0))) (kk : ∀ fd : Int32, V K E A 6 Q 71 [(4, .int fd), (0, .ref (E.ad 11 0)), (1, .int ti), (2, .int ce), (3, .int wh)] [] w z) : V K E A 6 Q 0 [(0, .ref (E.ad 11 0)), (1, .int ti), (2, .int ce), (3, .int wh)] [] w z := by
  have hL53 : ∀ (fd : Int32), (¬ fd = 0 → wh = 0 ∧ (ce = 0 ∨ 1 ≤ ce ∧ ce ≤ w 500 0 0) ∨ (wh = 1 ∨ wh = 2) ∧ 1 ≤ ce ∧ ce ≤ w 500 0 0) → V K E A 6 Q 53 [(0, .ref (E.ad 11 0)), (1, .int ti), (2, .int ce), (3, .int wh)] [.int fd] w z := by
    intro fd hf
    refine v_istore (lv2 := [(4, .int fd), (0, .ref (E.ad 11 0)), (1, .int ti), (2, .int ce), (3, .int wh)]) C dX11_at_53 (by decide) rfl ?_
    refine v_iload C 0 dX11_at_55 rfl ?_
    refine v_if_eq C 71 dX11_at_57 (by decide) (fun _ => kk fd) (fun c_57 => ?_)
    refine v_iload_n C 2 dX11_at_60 rfl ?_
    refine v_if_lt C 71 dX11_at_61 (by decide) (fun _ => kk fd) (fun c_61 => ?_)
    refine v_iload_n C 2 dX11_at_64 rfl ?_
    refine v_sipush (v := 600) C dX11_at_65 (by decide) ?_
    refine v_ic_le C 81 dX11_at_68 (by decide) (fun c_68 => absurd ⟨⟨?_, c_68⟩, hf c_57⟩ h) (fun _ => kk fd)
    clear C kk
    grind
  have has : ∀ (pc2 : Nat) (idx : Nat), Cond.methodLink RX11 141 M_X5_has.1 ∈ gtb := fun _ _ => x_786
  refine v_iload_n C 3 dX11_at_0 rfl ?_
  refine v_if_ne C 27 dX11_at_1 (by decide) (fun c_1 => ?_) (fun c_1 => ?_)
  · have hb37 : (wh = 1 ∨ wh = 2) → V K E A 6 Q 37 [(0, .ref (E.ad 11 0)), (1, .int ti), (2, .int ce), (3, .int wh)] [] w z := by
      intro hw
      refine v_aload_n C 0 dX11_at_37 rfl ?_
      refine v_gR C 11 0 4 5 0 (C_m C (u_11 0 (by decide))) k_11 (by decide) x_504 (fun _ _ _ => rfl) dX11_at_38 ?_
      refine v_iload_n C 2 dX11_at_41 rfl ?_
      refine v_vI C 5 0 [.int ce] 1 (c_X5_has E hE _ _ 0 (by decide) ce) m_X5_has x_786 x_710 x_711 p_X5_has rfl hR (C_m C (u_5 0 (by decide))) k_5 rfl (Nat.le_of_ble_eq_true rfl) dX11_at_42 (fun r1 u1 v1 hp1 => ?_)
      obtain ⟨hr1, hu1⟩ := hp1
      subst hr1
      cases hu1
      refine v_if_eq C 52 dX11_at_45 (by decide) (fun c_45 => ?_) (fun c_45 => ?_)
      · refine v_iconst (v := 0) C dX11_at_52 (by decide) ?_
        exact hL53 0 (fun z => absurd rfl z)
      · refine v_iconst (v := 1) C dX11_at_48 (by decide) ?_
        refine v_goto C 53 dX11_at_49 (by decide) ?_
        exact hL53 1 (fun _ => Or.inr ⟨hw, by clear C kk hL53; grind⟩)
    refine v_iload_n C 3 dX11_at_27 rfl ?_
    refine v_iconst (v := 1) C dX11_at_28 (by decide) ?_
    refine v_ic_eq C 37 dX11_at_29 (by decide) (fun c_29 => hb37 (Or.inl c_29)) (fun c_29 => ?_)
    refine v_iload_n C 3 dX11_at_32 rfl ?_
    refine v_iconst (v := 2) C dX11_at_33 (by decide) ?_
    refine v_ic_ne C 52 dX11_at_34 (by decide) (fun c_34 => ?_) (fun c_34 => hb37 (Or.inr c_34))
    refine v_iconst (v := 0) C dX11_at_52 (by decide) ?_
    exact hL53 0 (fun z => absurd rfl z)
  · have hb19 : (ce = 0 ∨ 1 ≤ ce ∧ ce ≤ w 500 0 0) → V K E A 6 Q 19 [(0, .ref (E.ad 11 0)), (1, .int ti), (2, .int ce), (3, .int wh)] [] w z := by
      intro hw
      refine v_iconst (v := 1) C dX11_at_19 (by decide) ?_
      refine v_goto C 53 dX11_at_20 (by decide) ?_
      exact hL53 1 (fun _ => Or.inl ⟨c_1, hw⟩)
    refine v_iload_n C 2 dX11_at_4 rfl ?_
    refine v_if_eq C 19 dX11_at_5 (by decide) (fun c_5 => hb19 (Or.inl c_5)) (fun c_5 => ?_)
    refine v_aload_n C 0 dX11_at_8 rfl ?_
    refine v_gR C 11 0 4 5 0 (C_m C (u_11 0 (by decide))) k_11 (by decide) x_504 (fun _ _ _ => rfl) dX11_at_9 ?_
    refine v_iload_n C 2 dX11_at_12 rfl ?_
    refine v_vI C 5 0 [.int ce] 1 (c_X5_has E hE _ _ 0 (by decide) ce) m_X5_has x_786 x_710 x_711 p_X5_has rfl hR (C_m C (u_5 0 (by decide))) k_5 rfl (Nat.le_of_ble_eq_true rfl) dX11_at_13 (fun r1 u1 v1 hp1 => ?_)
    obtain ⟨hr1, hu1⟩ := hp1
    subst hr1
    cases hu1
    refine v_if_eq C 23 dX11_at_16 (by decide) (fun c_16 => ?_) (fun c_16 => hb19 (Or.inr (by clear C kk hL53; grind)))
    refine v_iconst (v := 0) C dX11_at_23 (by decide) ?_
    refine v_goto C 53 dX11_at_24 (by decide) ?_
    exact hL53 0 (fun z => absurd rfl z)
end TW
def MX_car : Md := (yX11_car, cX11_car, 3, some .int, { frames := 6, cells := 1, slots := 6, locals := 200 })
def MX_at : Md := (yX11_at, cX11_at, 6, some .int, { frames := 6, cells := 1, slots := 6, locals := 200 })
theorem x_car_t (E : En) (hE : q_ok E) (w : Wi) (z : Wj) (c wh : Int32) (h : ¬ ((1 ≤ c ∧ c ≤ w 500 0 0) ∧ 0 ≤ wh ∧ wh ≤ 6)) : CtX MX_car E [.ref (E.ad 11 0), .int c, .int wh] w z := by
  refine ctX_of (lv := [(0, .ref (E.ad 11 0)), (1, .int c), (2, .int wh)]) hE (by decide) (Nat.le_of_ble_eq_true rfl) rfl ?_
  intro K A C0 SO TX hl htab
  have C : Cx K E A cX11_car 3 RX11 (some .int) { frames := 6, cells := 1, slots := 6, locals := 200 } := C0
  exact tw_car C hE ⟨by decide, by decide⟩ h (v_throw C SO TX hl htab (i := 18) (is := 146) (text := "no such car, or nothing such of it") (List.mem_of_getElem? (i := 18) rfl) ⟨by decide, by decide, by decide, by decide⟩ dX11_car_21 dX11_car_24 dX11_car_25 dX11_car_27 dX11_car_30)
theorem x_at_t (E : En) (hE : q_ok E) (w : Wi) (z : Wj) (ti ce wh : Int32) (h : ¬ ((0 ≤ ti ∧ ti ≤ 600) ∧ (wh = 0 ∧ (ce = 0 ∨ 1 ≤ ce ∧ ce ≤ w 500 0 0) ∨ (wh = 1 ∨ wh = 2) ∧ 1 ≤ ce ∧ ce ≤ w 500 0 0))) : CtX MX_at E [.ref (E.ad 11 0), .int ti, .int ce, .int wh] w z := by
  refine ctX_of (lv := [(0, .ref (E.ad 11 0)), (1, .int ti), (2, .int ce), (3, .int wh)]) hE (by decide) (Nat.le_of_ble_eq_true rfl) rfl ?_
  intro K A C0 SO TX hl htab
  have C : Cx K E A cX11_at 6 RX11 (some .int) { frames := 6, cells := 1, slots := 6, locals := 200 } := C0
  exact tw_at C hE ⟨by decide, by decide⟩ h (fun fd => v_throw C SO TX hl htab (i := 19) (is := 155) (text := "no such tick or cell, or nothing such of it") (List.mem_of_getElem? (i := 19) rfl) ⟨by decide, by decide, by decide, by decide⟩ dX11_at_71 dX11_at_74 dX11_at_75 dX11_at_77 dX11_at_80)
