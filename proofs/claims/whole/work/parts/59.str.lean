def litS : List (List Int32) := [[102, 117, 108, 108], [102, 101, 101, 100], [99, 97, 114], [111, 108, 100], [113, 117, 105, 99, 107], [115, 108, 111, 119], [111, 117, 116], [107, 101, 101, 112], [108, 101, 97, 107], [104, 111, 115, 101], [115, 116, 117, 99, 107], [111, 110], [111, 102, 102], [98, 111, 116, 104], [108, 101, 116], [104, 111, 108, 100], [100, 114, 97, 119], [100, 117, 109, 112], [110, 111, 32, 115, 117, 99, 104, 32, 99, 97, 114, 44, 32, 111, 114, 32, 110, 111, 116, 104, 105, 110, 103, 32, 115, 117, 99, 104, 32, 111, 102, 32, 105, 116], [110, 111, 32, 115, 117, 99, 104, 32, 116, 105, 99, 107, 32, 111, 114, 32, 99, 101, 108, 108, 44, 32, 111, 114, 32, 110, 111, 116, 104, 105, 110, 103, 32, 115, 117, 99, 104, 32, 111, 102, 32, 105, 116]]
def lenS : List Nat := [4, 4, 3, 3, 5, 4, 3, 4, 4, 4, 5, 2, 3, 4, 3, 4, 4, 4, 34, 43]
def litT : List (String × Nat × String × Nat) := [("TrainPipe$TrainText", 66, "full", 0), ("TrainPipe$TrainText", 75, "feed", 1), ("TrainPipe$TrainText", 76, "car", 2), ("TrainPipe$TrainText", 113, "old", 3), ("TrainPipe$TrainText", 115, "quick", 4), ("TrainPipe$TrainText", 117, "slow", 5), ("TrainPipe$TrainText", 119, "out", 6), ("TrainPipe$TrainText", 121, "keep", 7), ("TrainPipe$TrainText", 123, "leak", 8), ("TrainPipe$TrainText", 125, "hose", 9), ("TrainPipe$TrainText", 127, "stuck", 10), ("TrainPipe$TrainText", 129, "on", 11), ("TrainPipe$TrainText", 131, "off", 12), ("TrainPipe$HandleText", 31, "both", 13), ("TrainPipe$HandleText", 76, "let", 14), ("TrainPipe$HandleText", 78, "hold", 15), ("TrainPipe$HandleText", 80, "draw", 16), ("TrainPipe$HandleText", 82, "dump", 17), ("TrainPipe", 146, "no such car, or nothing such of it", 18), ("TrainPipe", 155, "no such tick or cell, or nothing such of it", 19)]
def SOK (E : En) (A : Nat → Prop) (U : State) : Prop := vk_S 20 lenS litS (E.ad 69) (E.ad 70) A U U.heap ∧ (∀ q ∈ litT, vk_R q.1 q.2.1 q.2.2.1 (E.ad 69 q.2.2.2) U) ∧ va_Z "java/lang/String" "COMPACT_STRINGS" "Z" (.int 1) A U U.heap ∧ va_Zq "jdk/internal/util/Preconditions" "SIOOBE_FORMATTER" "Ljava/util/function/BiFunction;" A U U.heap
theorem SOK.call {E : En} {A B : Nat → Prop} {s U : State} {locs : List Loc} (h : SOK E A s) (hS : va_S A s.heap U.heap locs) (hW : s.WarmedH U.vm) (hAB : ∀ q, B q → A q) : SOK E B U :=
  ⟨vk_S.narrow (vk_S.moved hW.alike (vk_S.kept h.1 hS.2.1)) hAB, fun q hq => vk_R.warm hW (h.2.1 q hq), va_Z.narrow (va_Z.moved hW.alike (va_Z.kept h.2.2.1 hS.2.1)) hAB, va_Zq.narrow (va_Zq.moved hW.alike (va_Zq.kept h.2.2.2 hS.2.1)) hAB⟩
def q_PreS (E : En) (w : Wi) (z : Wj) (As : List Value) (sz : Nat) : Array Value → State → Prop := fun a U => q_Pre E w z As sz a U ∧ SOK E (va_A (wc E w z) sz) U
theorem q_blindS (E : En) (w : Wi) (z : Wj) (As : List Value) (sz : Nat) : FrameBlind (q_PreS E w z As sz) := fun a U g mk q =>
  ⟨q_blind E w z As sz a U g mk q.1, vk_S.moved (Vm.Alike.refl U.vm) q.2.1, fun x hx => vk_R.same rfl (q.2.2.1 x hx), va_Z.moved (Vm.Alike.refl U.vm) q.2.2.2.1, va_Zq.moved (Vm.Alike.refl U.vm) q.2.2.2.2⟩
def CsI (M : Md) (E : En) (As : List Value) (w : Wi) (z : Wj) (post : Int32 → WW → Prop) : Prop := ∀ (l : Launch) (sz : Nat), Met l M.1 M.w M.2.2.2.2 (q_PreS E w z As sz) (va_Qi post (q_B E (va_A (wc E w z) sz)) (va_A (wc E w z) sz)) 0 0 (va_A (wc E w z) sz)
theorem csI_of {M : Md} {E : En} {As : List Value} {w : Wi} {z : Wj} {post : Int32 → WW → Prop} {lv : List (Nat × Value)} (hE : q_ok E) (hM : M.ok) (hn : (lg_sl As).length ≤ M.2.2.1) (hlv : lv_args 0 As = lv) (h : ∀ (K : Pk) (A : Nat → Prop), Cx K E A M.2.1 M.2.2.1 M.1.cls M.2.2.2.1 M.2.2.2.2 → SOK E A K.s → V K E A M.2.2.1 (QI K E A post) 0 lv [] w z) : CsI M E As w z post := by
  intro l sz
  refine Met.ofW (cc := M.2.1) (maxL := M.2.2.1) (ret := M.2.2.2.1) hM.1 rfl ?_
  intro p e s m args below meth c s₁ B hml hv
  obtain ⟨⟨rfl, hsz, hP, hK, hD0⟩, hSO⟩ := hv
  have hts := atoms_spec (ws := M.w) B.pre
  have hown : s.vm.findClass M.1.cls = some m.cls := findClass_of_methodNamed B.named
  subst hsz
  have hD := hD0.self (sz := s.heap.size)
  have hl := lv_entry As (n := M.2.2.1) hn
  rw [lg_entry_eq]
  rw [hlv] at hl
  exact h (p, l, e, (headSpec M.w M.2.2.2.2).room, s, m, As.toArray, below, meth, c) (va_A (wc E w z) s.heap.size) ⟨B.exec, B.bytes, hml, hown, fun w h => hts w (List.mem_cons_of_mem _ h), hK, fun q h => Or.inr h, B.returns, B.notSynchronized, rfl, hE⟩ hSO s.heap [] _ hl hP hD va_S.rf
def CsV (M : Md) (E : En) (As : List Value) (w : Wi) (z : Wj) (post : WW → Prop) : Prop := ∀ (l : Launch) (sz : Nat), Met l M.1 M.w M.2.2.2.2 (q_PreS E w z As sz) (va_Qv post (q_B E (va_A (wc E w z) sz)) (va_A (wc E w z) sz)) 0 0 (va_A (wc E w z) sz)
theorem csV_of {M : Md} {E : En} {As : List Value} {w : Wi} {z : Wj} {post : WW → Prop} {lv : List (Nat × Value)} (hE : q_ok E) (hM : M.ok) (hn : (lg_sl As).length ≤ M.2.2.1) (hlv : lv_args 0 As = lv) (h : ∀ (K : Pk) (A : Nat → Prop), Cx K E A M.2.1 M.2.2.1 M.1.cls M.2.2.2.1 M.2.2.2.2 → SOK E A K.s → V K E A M.2.2.1 (QV K E A post) 0 lv [] w z) : CsV M E As w z post := by
  intro l sz
  refine Met.ofW (cc := M.2.1) (maxL := M.2.2.1) (ret := M.2.2.2.1) hM.1 rfl ?_
  intro p e s m args below meth c s₁ B hml hv
  obtain ⟨⟨rfl, hsz, hP, hK, hD0⟩, hSO⟩ := hv
  have hts := atoms_spec (ws := M.w) B.pre
  have hown : s.vm.findClass M.1.cls = some m.cls := findClass_of_methodNamed B.named
  subst hsz
  have hD := hD0.self (sz := s.heap.size)
  have hl := lv_entry As (n := M.2.2.1) hn
  rw [lg_entry_eq]
  rw [hlv] at hl
  exact h (p, l, e, (headSpec M.w M.2.2.2.2).room, s, m, As.toArray, below, meth, c) (va_A (wc E w z) s.heap.size) ⟨B.exec, B.bytes, hml, hown, fun w h => hts w (List.mem_cons_of_mem _ h), hK, fun q h => Or.inr h, B.returns, B.notSynchronized, rfl, hE⟩ hSO s.heap [] _ hl hP hD va_S.rf
section SR
variable {K : Pk} {E : En} {A : Nat → Prop} {cc : ByteArray} {nL : Nat} {own : String} {ret : Option FieldType} {rm : Room} {Q : State → Prop} {pc : Nat} {lv : List (Nat × Value)} {st : List Value} {w : Wi} {z : Wj}
theorem v_vsI (C : Cx K E A cc nL own ret rm) (SO : SOK E A K.s) {M : Md} {index : Nat} {rest : List Value} {post : Int32 → WW → Prop} (t a : Nat) (As : List Value) (n : Nat) (hc : CsI M E (.ref (E.ad t a) :: As) w z post) (hM : M.ok) (hl : Cond.methodLink own index M.1 ∈ gtb) (hi : Cond.instanceMethod M.1 ∈ gtb) (hse : Cond.selects M.1.cls M.1 M.1 ∈ gtb) (hd : (parseMethodDescriptor M.1.desc).map (fun d => d.parameters.length) = some n) (hn : As.length = n) (hR : M.2.2.2.2.frames + 1 ≤ rm.frames ∧ 8 + (M.2.2.1 + 11) + M.2.2.2.2.locals ≤ rm.locals) (hm : (t, a) ∈ E.U) {T : u_T} (hcl : q_cl t M.1.cls T) (hst : st = As.reverse ++ .ref (E.ad t a) :: rest) (hr : (rest.map fun v => v.category).sum ≤ 8) (d : decode cc pc = .ok (.invokevirtual index, 3)) (kk : ∀ (r : Int32) (u : Wi) (v : Wj), post r (u, v) → V K E A nL Q (pc + 3) lv (.int r :: rest) u v) : V K E A nL Q pc lv st w z := by
  intro H locs ls hls hP hD hS
  have hR2 := C.2.2.2.2.2.2.2.2.2.1
  obtain ⟨j, -, hj⟩ := wc_at (w := w) (z := z) hm
  rw [show q_e E w z t a = .inr (t, (List.range (q_N t)).map (q_fv E w z t a)) from if_pos hcl.1] at hj
  have hF := q_free C hD hS
  refine va_calli (va_runV (Ts := gtb) (As := As) (rest := rest) (C := M.1.cls) ⟨C.1, C.2.1, C.2.2.1, C.2.2.2.1, C.2.2.2.2.1⟩ (hc K.l H.size) ⟨q_cb (Ts := gtb) hM C.2.2.2.2.1 hl hd (by rw [hR2]; exact hR), C.2.2.2.2.1 _ hi, C.2.2.2.2.1 _ hse⟩ ⟨q_blindS _ _ _ _ _, va_recv C.2.2.2.2.2.1 hP hcl.2.1 hj, fun U hU hW => ⟨⟨rfl, by rw [hU], by rw [hU]; exact hP, va_K.moved hW.alike C.2.2.2.2.2.1, hD.weaken (fun _ _ _ _ => trivial)⟩, SOK.call SO (by rw [hU]; exact hS) hW hF⟩⟩ rfl hn hls.1 hst (lv_room hr) d ⟨Nat.zero_le _, Nat.zero_le _⟩) hS (fun q _ h => hF q h) hF (fun r u t' H1 locs1 ht hvm hw hB hz1 hk1 hS1 => ?_)
  obtain ⟨hP1, hK1, hD1⟩ := hB
  rw [ht] at hP1
  exact kk r u.1 u.2 hw H1 locs1 ls hls hP1 (hD1.weaken (fun _ _ _ h => hF _ h)) hS1
theorem v_vtI (C : Cx K E A cc nL own ret rm) (SO : SOK E A K.s) {M : Md} {index : Nat} {rest : List Value} {post : Int32 → WW → Prop} (i : Nat) (As : List Value) (n : Nat) (hc : CsI M E (.ref (E.ad 69 i) :: As) w z post) (hM : M.ok) (hl : Cond.methodLink own index M.1 ∈ gtb) (hi : Cond.instanceMethod M.1 ∈ gtb) (hse : Cond.selects M.1.cls M.1 M.1 ∈ gtb) (hd : (parseMethodDescriptor M.1.desc).map (fun d => d.parameters.length) = some n) (hn : As.length = n) (hR : M.2.2.2.2.frames + 1 ≤ rm.frames ∧ 8 + (M.2.2.1 + 11) + M.2.2.2.2.locals ≤ rm.locals) (hi9 : i < 20) (hcs : M.1.cls = "java/lang/String") (hst : st = As.reverse ++ .ref (E.ad 69 i) :: rest) (hr : (rest.map fun v => v.category).sum ≤ 8) (d : decode cc pc = .ok (.invokevirtual index, 3)) (kk : ∀ (r : Int32) (u : Wi) (v : Wj), post r (u, v) → V K E A nL Q (pc + 3) lv (.int r :: rest) u v) : V K E A nL Q pc lv st w z := by
  intro H locs ls hls hP hD hS
  have hR2 := C.2.2.2.2.2.2.2.2.2.1
  have hF := q_free C hD hS
  refine va_calli (va_runV (Ts := gtb) (As := As) (rest := rest) (C := M.1.cls) ⟨C.1, C.2.1, C.2.2.1, C.2.2.2.1, C.2.2.2.2.1⟩ (hc K.l H.size) ⟨q_cb (Ts := gtb) hM C.2.2.2.2.1 hl hd (by rw [hR2]; exact hR), C.2.2.2.2.1 _ hi, C.2.2.2.2.1 _ hse⟩ ⟨q_blindS _ _ _ _ _, by rw [hcs]; exact vk_recv SO.1 hi9 hS, fun U hU hW => ⟨⟨rfl, by rw [hU], by rw [hU]; exact hP, va_K.moved hW.alike C.2.2.2.2.2.1, hD.weaken (fun _ _ _ _ => trivial)⟩, SOK.call SO (by rw [hU]; exact hS) hW hF⟩⟩ rfl hn hls.1 hst (lv_room hr) d ⟨Nat.zero_le _, Nat.zero_le _⟩) hS (fun q _ h => hF q h) hF (fun r u t' H1 locs1 ht hvm hw hB hz1 hk1 hS1 => ?_)
  obtain ⟨hP1, hK1, hD1⟩ := hB
  rw [ht] at hP1
  exact kk r u.1 u.2 hw H1 locs1 ls hls hP1 (hD1.weaken (fun _ _ _ h => hF _ h)) hS1
theorem v_ssI (C : Cx K E A cc nL own ret rm) (SO : SOK E A K.s) {M : Md} {index : Nat} {rest : List Value} {post : Int32 → WW → Prop} (As : List Value) (n : Nat) (hc : CsI M E As w z post) (hM : M.ok) (hl : Cond.methodLink own index M.1 ∈ gtb) (hi : Cond.static M.1 ∈ gtb) (hd : (parseMethodDescriptor M.1.desc).map (fun d => d.parameters.length) = some n) (hn : As.length = n) (hR : M.2.2.2.2.frames + 1 ≤ rm.frames ∧ 8 + (M.2.2.1 + 11) + M.2.2.2.2.locals ≤ rm.locals) (hst : st = As.reverse ++ rest) (hr : (rest.map fun v => v.category).sum ≤ 8) (d : decode cc pc = .ok (.invokestatic index, 3)) (kk : ∀ (r : Int32) (u : Wi) (v : Wj), post r (u, v) → V K E A nL Q (pc + 3) lv (.int r :: rest) u v) : V K E A nL Q pc lv st w z := by
  intro H locs ls hls hP hD hS
  have hR2 := C.2.2.2.2.2.2.2.2.2.1
  have hF := q_free C hD hS
  refine va_calli (va_runS (Ts := gtb) (As := As) (rest := rest) ⟨C.1, C.2.1, C.2.2.1, C.2.2.2.1, C.2.2.2.2.1⟩ (hc K.l H.size) ⟨q_cb (Ts := gtb) hM C.2.2.2.2.1 hl hd (by rw [hR2]; exact hR), C.2.2.2.2.1 _ hi⟩ ⟨q_blindS _ _ _ _ _, fun U hU hW => ⟨⟨rfl, by rw [hU], by rw [hU]; exact hP, va_K.moved hW.alike C.2.2.2.2.2.1, hD.weaken (fun _ _ _ _ => trivial)⟩, SOK.call SO (by rw [hU]; exact hS) hW hF⟩⟩ rfl hn hls.1 hst (lv_room hr) d ⟨Nat.zero_le _, Nat.zero_le _⟩) hS (fun q _ h => hF q h) hF (fun r u t' H1 locs1 ht hvm hw hB hz1 hk1 hS1 => ?_)
  obtain ⟨hP1, hK1, hD1⟩ := hB
  rw [ht] at hP1
  exact kk r u.1 u.2 hw H1 locs1 ls hls hP1 (hD1.weaken (fun _ _ _ h => hF _ h)) hS1
theorem v_vsV (C : Cx K E A cc nL own ret rm) (SO : SOK E A K.s) {M : Md} {index : Nat} {rest : List Value} {post : WW → Prop} (t a : Nat) (As : List Value) (n : Nat) (hc : CsV M E (.ref (E.ad t a) :: As) w z post) (hM : M.ok) (hl : Cond.methodLink own index M.1 ∈ gtb) (hi : Cond.instanceMethod M.1 ∈ gtb) (hse : Cond.selects M.1.cls M.1 M.1 ∈ gtb) (hd : (parseMethodDescriptor M.1.desc).map (fun d => d.parameters.length) = some n) (hn : As.length = n) (hR : M.2.2.2.2.frames + 1 ≤ rm.frames ∧ 8 + (M.2.2.1 + 11) + M.2.2.2.2.locals ≤ rm.locals) (hm : (t, a) ∈ E.U) {T : u_T} (hcl : q_cl t M.1.cls T) (hst : st = As.reverse ++ .ref (E.ad t a) :: rest) (hr : (rest.map fun v => v.category).sum ≤ 8) (d : decode cc pc = .ok (.invokevirtual index, 3)) (kk : ∀ (u : Wi) (v : Wj), post (u, v) → V K E A nL Q (pc + 3) lv (rest) u v) : V K E A nL Q pc lv st w z := by
  intro H locs ls hls hP hD hS
  have hR2 := C.2.2.2.2.2.2.2.2.2.1
  obtain ⟨j, -, hj⟩ := wc_at (w := w) (z := z) hm
  rw [show q_e E w z t a = .inr (t, (List.range (q_N t)).map (q_fv E w z t a)) from if_pos hcl.1] at hj
  have hF := q_free C hD hS
  refine va_callv (va_runV (Ts := gtb) (As := As) (rest := rest) (C := M.1.cls) ⟨C.1, C.2.1, C.2.2.1, C.2.2.2.1, C.2.2.2.2.1⟩ (hc K.l H.size) ⟨q_cb (Ts := gtb) hM C.2.2.2.2.1 hl hd (by rw [hR2]; exact hR), C.2.2.2.2.1 _ hi, C.2.2.2.2.1 _ hse⟩ ⟨q_blindS _ _ _ _ _, va_recv C.2.2.2.2.2.1 hP hcl.2.1 hj, fun U hU hW => ⟨⟨rfl, by rw [hU], by rw [hU]; exact hP, va_K.moved hW.alike C.2.2.2.2.2.1, hD.weaken (fun _ _ _ _ => trivial)⟩, SOK.call SO (by rw [hU]; exact hS) hW hF⟩⟩ rfl hn hls.1 hst (lv_room hr) d ⟨Nat.zero_le _, Nat.zero_le _⟩) hS (fun q _ h => hF q h) hF (fun u t' H1 locs1 ht hvm hw hB hz1 hk1 hS1 => ?_)
  obtain ⟨hP1, hK1, hD1⟩ := hB
  rw [ht] at hP1
  exact kk u.1 u.2 hw H1 locs1 ls hls hP1 (hD1.weaken (fun _ _ _ h => hF _ h)) hS1
theorem v_vtV (C : Cx K E A cc nL own ret rm) (SO : SOK E A K.s) {M : Md} {index : Nat} {rest : List Value} {post : WW → Prop} (i : Nat) (As : List Value) (n : Nat) (hc : CsV M E (.ref (E.ad 69 i) :: As) w z post) (hM : M.ok) (hl : Cond.methodLink own index M.1 ∈ gtb) (hi : Cond.instanceMethod M.1 ∈ gtb) (hse : Cond.selects M.1.cls M.1 M.1 ∈ gtb) (hd : (parseMethodDescriptor M.1.desc).map (fun d => d.parameters.length) = some n) (hn : As.length = n) (hR : M.2.2.2.2.frames + 1 ≤ rm.frames ∧ 8 + (M.2.2.1 + 11) + M.2.2.2.2.locals ≤ rm.locals) (hi9 : i < 20) (hcs : M.1.cls = "java/lang/String") (hst : st = As.reverse ++ .ref (E.ad 69 i) :: rest) (hr : (rest.map fun v => v.category).sum ≤ 8) (d : decode cc pc = .ok (.invokevirtual index, 3)) (kk : ∀ (u : Wi) (v : Wj), post (u, v) → V K E A nL Q (pc + 3) lv (rest) u v) : V K E A nL Q pc lv st w z := by
  intro H locs ls hls hP hD hS
  have hR2 := C.2.2.2.2.2.2.2.2.2.1
  have hF := q_free C hD hS
  refine va_callv (va_runV (Ts := gtb) (As := As) (rest := rest) (C := M.1.cls) ⟨C.1, C.2.1, C.2.2.1, C.2.2.2.1, C.2.2.2.2.1⟩ (hc K.l H.size) ⟨q_cb (Ts := gtb) hM C.2.2.2.2.1 hl hd (by rw [hR2]; exact hR), C.2.2.2.2.1 _ hi, C.2.2.2.2.1 _ hse⟩ ⟨q_blindS _ _ _ _ _, by rw [hcs]; exact vk_recv SO.1 hi9 hS, fun U hU hW => ⟨⟨rfl, by rw [hU], by rw [hU]; exact hP, va_K.moved hW.alike C.2.2.2.2.2.1, hD.weaken (fun _ _ _ _ => trivial)⟩, SOK.call SO (by rw [hU]; exact hS) hW hF⟩⟩ rfl hn hls.1 hst (lv_room hr) d ⟨Nat.zero_le _, Nat.zero_le _⟩) hS (fun q _ h => hF q h) hF (fun u t' H1 locs1 ht hvm hw hB hz1 hk1 hS1 => ?_)
  obtain ⟨hP1, hK1, hD1⟩ := hB
  rw [ht] at hP1
  exact kk u.1 u.2 hw H1 locs1 ls hls hP1 (hD1.weaken (fun _ _ _ h => hF _ h)) hS1
theorem v_ssV (C : Cx K E A cc nL own ret rm) (SO : SOK E A K.s) {M : Md} {index : Nat} {rest : List Value} {post : WW → Prop} (As : List Value) (n : Nat) (hc : CsV M E As w z post) (hM : M.ok) (hl : Cond.methodLink own index M.1 ∈ gtb) (hi : Cond.static M.1 ∈ gtb) (hd : (parseMethodDescriptor M.1.desc).map (fun d => d.parameters.length) = some n) (hn : As.length = n) (hR : M.2.2.2.2.frames + 1 ≤ rm.frames ∧ 8 + (M.2.2.1 + 11) + M.2.2.2.2.locals ≤ rm.locals) (hst : st = As.reverse ++ rest) (hr : (rest.map fun v => v.category).sum ≤ 8) (d : decode cc pc = .ok (.invokestatic index, 3)) (kk : ∀ (u : Wi) (v : Wj), post (u, v) → V K E A nL Q (pc + 3) lv (rest) u v) : V K E A nL Q pc lv st w z := by
  intro H locs ls hls hP hD hS
  have hR2 := C.2.2.2.2.2.2.2.2.2.1
  have hF := q_free C hD hS
  refine va_callv (va_runS (Ts := gtb) (As := As) (rest := rest) ⟨C.1, C.2.1, C.2.2.1, C.2.2.2.1, C.2.2.2.2.1⟩ (hc K.l H.size) ⟨q_cb (Ts := gtb) hM C.2.2.2.2.1 hl hd (by rw [hR2]; exact hR), C.2.2.2.2.1 _ hi⟩ ⟨q_blindS _ _ _ _ _, fun U hU hW => ⟨⟨rfl, by rw [hU], by rw [hU]; exact hP, va_K.moved hW.alike C.2.2.2.2.2.1, hD.weaken (fun _ _ _ _ => trivial)⟩, SOK.call SO (by rw [hU]; exact hS) hW hF⟩⟩ rfl hn hls.1 hst (lv_room hr) d ⟨Nat.zero_le _, Nat.zero_le _⟩) hS (fun q _ h => hF q h) hF (fun u t' H1 locs1 ht hvm hw hB hz1 hk1 hS1 => ?_)
  obtain ⟨hP1, hK1, hD1⟩ := hB
  rw [ht] at hP1
  exact kk u.1 u.2 hw H1 locs1 ls hls hP1 (hD1.weaken (fun _ _ _ h => hF _ h)) hS1
theorem v_gets (C : Cx K E A cc nL own ret rm) {Cc n dd : String} {v : Value} {index : Nat} (hZ : va_Z Cc n dd v A K.s K.s.heap) (hl : Cond.fieldLink own index Cc n dd ∈ gtb) (d : decode cc pc = .ok (.getstatic index, 3)) (k : V K E A nL Q (pc + 3) lv (v :: st) w z) : V K E A nL Q pc lv st w z := fun H locs ls hls hP hD hS => va_gets C.1 C.2.1 hZ hS C.2.2.2.1 (C.2.2.2.2.1 _ hl) (fun _ h => h) d (k H locs ls hls hP hD hS)
theorem v_getS (C : Cx K E A cc nL own ret rm) {Cc n dd : String} {v : Value} {index q : Nat} (hZ : va_OF Cc n dd v q A K.s K.s.heap) (hl : Cond.fieldLink own index Cc n dd ∈ gtb) (d : decode cc pc = .ok (.getfield index, 3)) (k : V K E A nL Q (pc + 3) lv (v :: st) w z) : V K E A nL Q pc lv (.ref q :: st) w z := fun H locs ls hls hP hD hS => vk_getf C.1 C.2.1 hZ hS C.2.2.2.1 (C.2.2.2.2.1 _ hl) (fun _ h => h) d (k H locs ls hls hP hD hS)
theorem v_tlen (C : Cx K E A cc nL own ret rm) {ty : FieldType} {t N : Nat} {f : Nat → Value} {v : Int32} (hT : va_T ty t N f A K.s K.s.heap) (hv : Int32.ofNat N = v) (d : decode cc pc = .ok (.arraylength, 1)) (k : V K E A nL Q (pc + 1) lv (.int v :: st) w z) : V K E A nL Q pc lv (.ref t :: st) w z := fun H locs ls hls hP hD hS => va_tlen C.1 C.2.1 hT hS hv d (k H locs ls hls hP hD hS)
theorem v_tb (C : Cx K E A cc nL own ret rm) {t N : Nat} {f : Nat → Value} {i : Int32} {v : Value} (hT : va_T .byte t N f A K.s K.s.heap) (hin : vp_in i N) (hv : f i.toNatClampNeg = v) (d : decode cc pc = .ok (.baload, 1)) (k : V K E A nL Q (pc + 1) lv (v :: st) w z) : V K E A nL Q pc lv (.int i :: .ref t :: st) w z := fun H locs ls hls hP hD hS => va_tb C.1 C.2.1 hT hS hin hv d (k H locs ls hls hP hD hS)
theorem v_i2c (C : Cx K E A cc nL own ret rm) {x v : Int32} (d : decode cc pc = .ok (.i2c, 1)) (hv : (x.toUInt32 % 65536).toInt32 = v) (k : V K E A nL Q (pc + 1) lv (.int v :: st) w z) : V K E A nL Q pc lv (.int x :: st) w z := fun H locs ls hls hP hD hS => lv_i2c C.1 C.2.1 d hv (k H locs ls hls hP hD hS)
theorem v_ldcS (C : Cx K E A cc nL own ret rm) (SO : SOK E A K.s) {index i : Nat} {tx : String} (hq : (own, index, tx, i) ∈ litT) (d : decode cc pc = .ok (.ldc index, 2)) (k : V K E A nL Q (pc + 2) lv (.ref (E.ad 69 i) :: st) w z) : V K E A nL Q pc lv st w z := fun H locs ls hls hP hD hS => va_ldcS C.1 C.2.1 C.2.2.2.1 (SO.2.1 _ hq) d (k H locs ls hls hP hD hS)
theorem v_nret {ty : FieldType} (C : Cx K E A cc nL own (some ty) rm) {v : Int32} {post : Int32 → WW → Prop} (d : decode cc pc = .ok (.ireturn, 1)) (hn : narrow ty (.int v) = .int v) (h : post v (w, z)) : V K E A nL (QI K E A post) pc lv [.int v] w z := by
  intro H locs ls hls hP hD hS
  exact W.zret C.1 C.2.1 C.2.2.2.2.2.2.2.1 hn (fun t ht hW => ⟨⟨v, (w, z), rfl, h, by rw [ht]; exact hP, va_K.moved hW.alike C.2.2.2.2.2.1, hD⟩, hS.F ht⟩) hS.2.2 d C.2.2.2.2.2.2.2.2.1
end SR
