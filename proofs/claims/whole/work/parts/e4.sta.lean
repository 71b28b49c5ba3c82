/-! the law's beginning: both sides made, and the loop -/
theorem xk_96 : Cond.classLink RLw 8 RX11 ∈ gtb := mem_g 96 (by decide +kernel) (by decide +kernel)
theorem xk_97 : Cond.instantiable RX11 13 ∈ gtb := mem_g 97 (by decide +kernel) (by decide +kernel)
theorem xk_1236 : Cond.classLink RLw 20 RX12 ∈ gtb := mem_g 1236 (by decide +kernel) (by decide +kernel)
theorem xk_1237 : Cond.instantiable RX12 72 ∈ gtb := mem_g 1237 (by decide +kernel) (by decide +kernel)
section LS
variable {K : Pk} {D : va_G} {tys : List (ClassId × FieldType)} {A : Nat → Prop} {cc : ByteArray} {nL : Nat} {own : String} {rm : Room} {Q : State → Prop} {k n pc : Nat} {lv : List (Nat × Value)} {st : List Value} {ws : va_W}
theorem k_newW (C : CB K D tys A cc nL own rm) {CN : String} {T : u_T} {tyf : Nat → FieldType} {index ci k2 n2 N : Nat} {fs : List Value} (hcl : q_cl ci CN T) (hty : q_ty T tyf (q_N ci)) (hN : q_N ci = N) (h1 : Cond.classLink own index CN ∈ gtb) (h2 : Cond.instantiable CN N ∈ gtb) (h3 : Cond.initialized CN ∈ gtb) (hfs : ∀ j, j < N → defaultValue (tyf j) = vp_V fs j) (hk : k + 1 = k2) (hn : n + N = n2) (hrm : k2 ≤ rm.cells ∧ n2 ≤ rm.slots) (d : decode cc pc = .ok (.new index, 3)) (kk : ∀ q : Nat, VC K D A nL Q k2 n2 (pc + 3) lv (.ref q :: st) (ws ++ [(q, .inr (ci, fs))])) : VC K D A nL Q k n pc lv st ws := by
  intro H locs ls hls hP hD hS
  have hR2 := C.2.2.2.2.2.2.2.1
  subst hk
  subst hn
  subst hN
  exact va_new (ci := ci) (fs := fs) (C := CN) (T := T) (N := q_N ci) C.1 C.2.1 C.2.2.2.2.1 hcl.2.2 tyf hty.1 C.2.2.2.1 (C.2.2.2.2.1 _ h1) (C.2.2.2.2.1 _ h2) (C.2.2.2.2.1 _ h3) C.2.2.2.2.2.1 hP hD hS C.2.2.2.2.2.2.1 hcl.2.1 hfs (by rw [hR2]; exact hrm.1) (by rw [hR2]; exact hrm.2) d (fun q H1 hP1 hD1 hS1 => kk q H1 locs ls hls hP1 hD1 hS1)
theorem k_callW (C : CB K D tys A cc nL own rm) {M : Mn} {index : Nat} {rest : List Value} {post : va_W → Prop} {k2 n2 : Nat} {e0 : va_E} (q : Nat) (As : List Value) (a : Nat) (hc : CtN M D tys (.ref q :: As) (q, e0) post) (hM : M.ok) (hl : Cond.methodLink own index M.1 ∈ gtb) (hd : (parseMethodDescriptor M.1.desc).map (fun d => d.parameters.length) = some a) (hn : As.length = a) (hR : M.2.2.2.frames + 1 ≤ rm.frames ∧ 8 + (M.2.2.1 + 11) + M.2.2.2.locals ≤ rm.locals) (hk : k + M.2.2.2.cells = k2) (hn2 : n + M.2.2.2.slots = n2) (hrm : k2 ≤ rm.cells ∧ n2 ≤ rm.slots) (hst : st = As.reverse ++ .ref q :: rest) (hr : (rest.map fun v => v.category).sum ≤ 8) (d : decode cc pc = .ok (.invokespecial index, 3)) (kk : ∀ w1, post w1 → VC K D A nL Q k2 n2 (pc + 3) lv rest (ws ++ w1)) : VC K D A nL Q k n pc lv st (ws ++ [(q, e0)]) := by
  intro H locs ls hls hP hD hS
  have hR2 := C.2.2.2.2.2.2.2.1
  subst hk
  subst hn2
  obtain ⟨hpre, hF⟩ := k_pre C hP hD hS (.ref q :: As)
  refine va_callv (va_runI (Ts := gtb) (As := As) (rest := rest) ⟨C.1, C.2.1, C.2.2.1, C.2.2.2.1, C.2.2.2.2.1⟩ (hc K.l H.size) (cwI a C.2.2.2.2.1 (Mn.good hM) rfl rfl rfl (C.2.2.2.2.1 _ hM.2.2.2.1) (C.2.2.2.2.1 _ hl) (C.2.2.2.2.1 _ hM.2.2.2.2.2.1) hM.2.2.2.2.2.2 ⟨hM.2.1, hM.2.2.1, hd⟩ (by rw [hR2]; exact hR)) hpre rfl hn hls.1 hst (lv_room hr) d ⟨by rw [hR2]; exact hrm.1, by rw [hR2]; exact hrm.2⟩) hS (fun q _ h => hF q h) hF (fun u t H1 locs1 ht hvm hw hB hz1 hk1 hS1 => ?_)
  obtain ⟨hP1, hK1, hD1⟩ := hB
  rw [ht] at hP1
  obtain ⟨hP2, hD2⟩ := vc_join hP hD hk1 hF hP1 hD1
  exact kk u hw H1 locs1 ls hls hP2 hD2 hS1
theorem k_newaW (C : CB K D tys A cc nL own rm) (aty : ArrayType) {ty : FieldType} (hty : newarray.typeOf aty = ty) (hw : Cond.arrayClass (newarray.typeOf aty) ∈ gtb) (ti : Nat) {cA : ClassId} (htk : tys[ti]? = some (cA, ty)) (hra : ∀ c : ClassId, va_RA K.s c ty = (K.s.vm.findClass ("[" ++ ty.toString) = some c)) {v : Int32} {N k2 n2 : Nat} {a0 : vp_A} (ha : ∀ c : ClassId, vp_cell c a0 = arrV c N (fun _ => defaultValue ty)) (hv : ¬ v < 0) (hN : v.toNatClampNeg = N) (hb : N * componentBytes ty ≤ 536870912) (hk : k + 1 = k2) (hn : n + N = n2) (hrm : k2 ≤ rm.cells ∧ n2 ≤ rm.slots) (d : decode cc pc = .ok (.newarray aty, 2)) (kk : ∀ q : Nat, VC K D A nL Q k2 n2 (pc + 2) lv (.ref q :: st) (ws ++ [(q, .inl (cA, a0))])) : VC K D A nL Q k n pc lv (.int v :: st) ws := by
  intro H locs ls hls hP hD hS
  have hR2 := C.2.2.2.2.2.2.2.1
  subst hk
  subst hn
  refine va_newa C.1 C.2.1 (C.2.2.2.2.1 _ hw) hty C.2.2.2.2.2.1 hP hD hS C.2.2.2.2.2.2.1 ha hv hN hb (by rw [hR2]; exact hrm.1) (by rw [hR2]; exact hrm.2) d (fun q cB H1 hK1 hP1 hD1 hS1 => ?_)
  have e1 : va_RA K.s cB ty := (hK1.2 tys.length (cB, ty) (by simp)).2
  have e2 : va_RA K.s cA ty := (C.2.2.2.2.2.1.2 ti (cA, ty) htk).2
  rw [hra] at e1 e2
  cases Option.some.inj (e1.symm.trans e2)
  exact kk q H1 locs ls hls hP1 hD1 hS1
end LS
