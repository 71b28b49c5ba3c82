section LR
variable {K : Pk} {D : va_G} {tys : List (ClassId × FieldType)} {A : Nat → Prop} {cc : ByteArray} {nL : Nat} {own : String} {rm : Room} {Q : State → Prop} {kc nc pc : Nat} {lv : List (Nat × Value)} {st : List Value} {ws : va_W} {w : Wi} {z : Wj}
theorem k_iload (C : CB K D tys A cc nL own rm) {i : Nat} {x : Int32} (j : Nat) (d : decode cc pc = .ok (.iload i, 2)) (hj : lv[j]? = some (i, .int x)) (k : VC K D A nL Q kc nc (pc + 2) lv (.int x :: st) ws) : VC K D A nL Q kc nc pc lv (st) ws := fun H locs ls hl hP hD hS => lv_iload C.1 C.2.1 d (lv_at hl j hj) (k H locs ls hl hP hD hS)
theorem k_istore (C : CB K D tys A cc nL own rm) {i : Nat} {x : Int32} {lv2 : List (Nat × Value)} (d : decode cc pc = .ok (.istore i, 2)) (hn : i < nL) (hl2 : (i, Value.int x) :: lv.filter (fun q => !(q.1 == i) && !(q.1 + 1 == i && q.2.category == 2)) = lv2) (k : VC K D A nL Q kc nc (pc + 2) lv2 st ws) : VC K D A nL Q kc nc pc lv (.int x :: st) ws := fun H locs ls hl hP hD hS => lv_istore C.1 C.2.1 d hl hn hl2 (fun ls2 hl3 => k H locs ls2 hl3 hP hD hS)
theorem k_astore_n (C : CB K D tys A cc nL own rm) {k : Fin 4} {i : Nat} {x : Nat} {lv2 : List (Nat × Value)} (d : decode cc pc = .ok (.astore_n k, 1)) (hi : (k : Nat) = i) (hn : i < nL) (hl2 : (i, Value.ref x) :: lv.filter (fun q => !(q.1 == i) && !(q.1 + 1 == i && q.2.category == 2)) = lv2) (k : VC K D A nL Q kc nc (pc + 1) lv2 st ws) : VC K D A nL Q kc nc pc lv (.ref x :: st) ws := fun H locs ls hl hP hD hS => lv_astore_n C.1 C.2.1 d hi hl hn hl2 (fun ls2 hl3 => k H locs ls2 hl3 hP hD hS)
theorem k_iinc (C : CB K D tys A cc nL own rm) {i : Nat} {n : Int} {x v : Int32} {lv2 : List (Nat × Value)} (j : Nat) (d : decode cc pc = .ok (.iinc i n, 3)) (hj : lv[j]? = some (i, .int x)) (hv : x + Int32.ofInt n = v) (hn : i < nL) (hl2 : (i, Value.int v) :: lv.filter (fun q => !(q.1 == i) && !(q.1 + 1 == i && q.2.category == 2)) = lv2) (k : VC K D A nL Q kc nc (pc + 3) lv2 st ws) : VC K D A nL Q kc nc pc lv st ws := fun H locs ls hl hP hD hS => lv_iinc C.1 C.2.1 d hl hj hv hn hl2 (fun ls2 hl3 => k H locs ls2 hl3 hP hD hS)
theorem k_iadd (C : CB K D tys A cc nL own rm) {x y : Int32} (d : decode cc pc = .ok (.iadd, 1)) (k : VC K D A nL Q kc nc (pc + 1) lv (.int (x + y) :: st) ws) : VC K D A nL Q kc nc pc lv (.int y :: .int x :: st) ws := fun H locs ls hl hP hD hS => lv_iadd C.1 C.2.1 d (k H locs ls hl hP hD hS)
theorem k_isub (C : CB K D tys A cc nL own rm) {x y : Int32} (d : decode cc pc = .ok (.isub, 1)) (k : VC K D A nL Q kc nc (pc + 1) lv (.int (x - y) :: st) ws) : VC K D A nL Q kc nc pc lv (.int y :: .int x :: st) ws := fun H locs ls hl hP hD hS => lv_isub C.1 C.2.1 d (k H locs ls hl hP hD hS)
theorem k_iand (C : CB K D tys A cc nL own rm) {x y : Int32} (d : decode cc pc = .ok (.iand, 1)) (k : VC K D A nL Q kc nc (pc + 1) lv (.int (x &&& y) :: st) ws) : VC K D A nL Q kc nc pc lv (.int y :: .int x :: st) ws := fun H locs ls hl hP hD hS => lv_iand C.1 C.2.1 d (k H locs ls hl hP hD hS)
theorem k_i2l (C : CB K D tys A cc nL own rm) {x : Int32} (d : decode cc pc = .ok (.i2l, 1)) (k : VC K D A nL Q kc nc (pc + 1) lv (.long x.toInt64 :: st) ws) : VC K D A nL Q kc nc pc lv (.int x :: st) ws := fun H locs ls hl hP hD hS => lv_i2l C.1 C.2.1 d rfl (k H locs ls hl hP hD hS)
theorem k_goto (C : CB K D tys A cc nL own rm) {off : Int} (tgt : Nat) (d : decode cc pc = .ok (.goto off, 3)) (ht : (pc : Int) + off = (tgt : Int)) (k : VC K D A nL Q kc nc tgt lv st ws) : VC K D A nL Q kc nc pc lv st ws := fun H locs ls hl hP hD hS => lv_goto C.1 C.2.1 d ht (k H locs ls hl hP hD hS)
theorem k_if_eq (C : CB K D tys A cc nL own rm) {x : Int32} {off : Int} (tgt : Nat) (d : decode cc pc = .ok (.ifCond .eq off, 3)) (ht : (pc : Int) + off = (tgt : Int)) (kt : x = 0 → VC K D A nL Q kc nc tgt lv st ws) (kf : ¬ x = 0 → VC K D A nL Q kc nc (pc + 3) lv st ws) : VC K D A nL Q kc nc pc lv (.int x :: st) ws := fun H locs ls hl hP hD hS => lv_if_eq C.1 C.2.1 d ht (fun h => kt h H locs ls hl hP hD hS) (fun h => kf h H locs ls hl hP hD hS)
theorem k_if_ne (C : CB K D tys A cc nL own rm) {x : Int32} {off : Int} (tgt : Nat) (d : decode cc pc = .ok (.ifCond .ne off, 3)) (ht : (pc : Int) + off = (tgt : Int)) (kt : ¬ x = 0 → VC K D A nL Q kc nc tgt lv st ws) (kf : x = 0 → VC K D A nL Q kc nc (pc + 3) lv st ws) : VC K D A nL Q kc nc pc lv (.int x :: st) ws := fun H locs ls hl hP hD hS => lv_if_ne C.1 C.2.1 d ht (fun h => kt h H locs ls hl hP hD hS) (fun h => kf h H locs ls hl hP hD hS)
theorem k_ic_eq (C : CB K D tys A cc nL own rm) {x y : Int32} {off : Int} (tgt : Nat) (d : decode cc pc = .ok (.if_icmp .eq off, 3)) (ht : (pc : Int) + off = (tgt : Int)) (kt : x = y → VC K D A nL Q kc nc tgt lv st ws) (kf : ¬ x = y → VC K D A nL Q kc nc (pc + 3) lv st ws) : VC K D A nL Q kc nc pc lv (.int y :: .int x :: st) ws := fun H locs ls hl hP hD hS => lv_icmp_eq C.1 C.2.1 d ht (fun h => kt h H locs ls hl hP hD hS) (fun h => kf h H locs ls hl hP hD hS)
theorem k_ic_gt (C : CB K D tys A cc nL own rm) {x y : Int32} {off : Int} (tgt : Nat) (d : decode cc pc = .ok (.if_icmp .gt off, 3)) (ht : (pc : Int) + off = (tgt : Int)) (kt : y < x → VC K D A nL Q kc nc tgt lv st ws) (kf : ¬ y < x → VC K D A nL Q kc nc (pc + 3) lv st ws) : VC K D A nL Q kc nc pc lv (.int y :: .int x :: st) ws := fun H locs ls hl hP hD hS => lv_icmp_gt C.1 C.2.1 d ht (fun h => kt h H locs ls hl hP hD hS) (fun h => kf h H locs ls hl hP hD hS)
theorem k_tin (C : CB K D tys A cc nL own rm) {dflt lo hi : Int} {offs : Array Int} {len : Nat} {x : Int32} (off : Int) (tgt : Nat) (d : decode cc pc = .ok (.tableswitch dflt lo hi offs, len)) (h1 : ¬ x.toInt < lo) (h2 : ¬ hi < x.toInt) (ho : offs[(x.toInt - lo).toNat]? = some off) (ht : (pc : Int) + off = (tgt : Int)) (k : VC K D A nL Q kc nc tgt lv st ws) : VC K D A nL Q kc nc pc lv (.int x :: st) ws := fun H locs ls hl hP hD hS => lv_tableIn C.1 C.2.1 d h1 h2 ho ht (k H locs ls hl hP hD hS)
theorem k_tout (C : CB K D tys A cc nL own rm) {dflt lo hi : Int} {offs : Array Int} {len : Nat} {x : Int32} (tgt : Nat) (d : decode cc pc = .ok (.tableswitch dflt lo hi offs, len)) (h : x.toInt < lo ∨ hi < x.toInt) (ht : (pc : Int) + dflt = (tgt : Int)) (k : VC K D A nL Q kc nc tgt lv st ws) : VC K D A nL Q kc nc pc lv (.int x :: st) ws := fun H locs ls hl hP hD hS => lv_tableOut C.1 C.2.1 d h ht (k H locs ls hl hP hD hS)
theorem k_lcmp (C : CB K D tys A cc nL own rm) {x y : Int64} (d : decode cc pc = .ok (.lcmp, 1)) (k : VC K D A nL Q kc nc (pc + 1) lv (.int (lg_cmp x y) :: st) ws) : VC K D A nL Q kc nc pc lv (.long y :: .long x :: st) ws := fun H locs ls hl hP hD hS => W.lcmp C.1 C.2.1 d (k H locs ls hl hP hD hS)
theorem k_lald {E : En} (C : CB K E.D (q_tys E) A cc nL own rm) (t a : Nat) {n : Nat} {i : Int32} (hm : (t, a) ∈ E.U) (ha : q_a t 2 n) (hin : vp_in i n) (d : decode cc pc = .ok (.laload, 1)) (kk : VC K E.D A nL Q kc nc (pc + 1) lv (.long (z t a i.toNatClampNeg) :: st) (wc E w z)) : VC K E.D A nL Q kc nc pc lv (.int i :: .ref (E.ad t a) :: st) (wc E w z) := by
  intro H locs ls hls hP hD hS
  obtain ⟨j, -, hj⟩ := wc_at (w := w) (z := z) hm
  rw [show q_e E w z t a = .inl (E.cJ, n, .inr (.inl (z t a))) by simp only [q_e, if_neg (Nat.not_lt.mpr ha.1), q_ar, ha.2.1, ha.2.2]] at hj
  exact va_lald C.1 C.2.1 C.2.2.2.2.2.1 hP j 2 hj rfl hin d (kk H locs ls hls hP hD hS)
theorem k_free {E : En} (C : CB K E.D (q_tys E) A cc nL own rm) {H : Heap} {locs : List Loc} (hD : va_D A (wc E w z)) (hS : va_S A K.s.heap H locs) : ∀ q, va_A (wc E w z) H.size q → A q := by
  intro q h
  rcases h with ⟨i, e, h⟩ | h
  · exact hD.2 i (q, e) h
  · exact C.2.2.2.2.2.2.1 q (Nat.le_trans hS.1 h)
theorem k_vI {E : En} (C : CB K E.D (q_tys E) A cc nL own rm) {M : Md} {index : Nat} {rest : List Value} {post : Int32 → WW → Prop} (t a : Nat) (As : List Value) (b : Nat) (hc : CtI M E (.ref (E.ad t a) :: As) w z post) (hM : M.ok) (hl : Cond.methodLink own index M.1 ∈ gtb) (hi : Cond.instanceMethod M.1 ∈ gtb) (hse : Cond.selects M.1.cls M.1 M.1 ∈ gtb) (hd : (parseMethodDescriptor M.1.desc).map (fun d => d.parameters.length) = some b) (hn : As.length = b) (hR : M.2.2.2.2.frames + 1 ≤ rm.frames ∧ 8 + (M.2.2.1 + 11) + M.2.2.2.2.locals ≤ rm.locals) (hrm : kc ≤ rm.cells ∧ nc ≤ rm.slots) (hm : (t, a) ∈ E.U) {T : u_T} (hcl : q_cl t M.1.cls T) (hst : st = As.reverse ++ .ref (E.ad t a) :: rest) (hr : (rest.map fun v => v.category).sum ≤ 8) (d : decode cc pc = .ok (.invokevirtual index, 3)) (kk : ∀ (r : Int32) (u : Wi) (v : Wj), post r (u, v) → VC K E.D A nL Q kc nc (pc + 3) lv (.int r :: rest) (wc E u v)) : VC K E.D A nL Q kc nc pc lv st (wc E w z) := by
  intro H locs ls hls hP hD hS
  have hR2 := C.2.2.2.2.2.2.2.1
  obtain ⟨j, -, hj⟩ := wc_at (w := w) (z := z) hm
  rw [show q_e E w z t a = .inr (t, (List.range (q_N t)).map (q_fv E w z t a)) from if_pos hcl.1] at hj
  have hF := k_free C hD hS
  refine va_calli (va_runV (Ts := gtb) (As := As) (rest := rest) (C := M.1.cls) ⟨C.1, C.2.1, C.2.2.1, C.2.2.2.1, C.2.2.2.2.1⟩ (hc K.l H.size) ⟨q_cb (Ts := gtb) hM C.2.2.2.2.1 hl hd (by rw [hR2]; exact hR), C.2.2.2.2.1 _ hi, C.2.2.2.2.1 _ hse⟩ ⟨q_blind _ _ _ _ _, va_recv C.2.2.2.2.2.1 hP hcl.2.1 hj, fun U hU hW => ⟨rfl, by rw [hU], by rw [hU]; exact hP, va_K.moved hW.alike C.2.2.2.2.2.1, hD.weaken (fun _ _ _ _ => trivial)⟩⟩ rfl hn hls.1 hst (lv_room hr) d ⟨by rw [hR2]; exact hrm.1, by rw [hR2]; exact hrm.2⟩) hS (fun q _ h => hF q h) hF (fun r u t' H1 locs1 ht hvm hw hB hz1 hk1 hS1 => ?_)
  obtain ⟨hP1, hK1, hD1⟩ := hB
  rw [ht] at hP1
  exact kk r u.1 u.2 hw H1 locs1 ls hls hP1 (hD1.weaken (fun _ _ _ h => hF _ h)) hS1
theorem k_vsI {E : En} (C : CB K E.D (q_tys E) A cc nL own rm) (SO : SOK E A K.s) {M : Md} {index : Nat} {rest : List Value} {post : Int32 → WW → Prop} (t a : Nat) (As : List Value) (b : Nat) (hc : CsI M E (.ref (E.ad t a) :: As) w z post) (hM : M.ok) (hl : Cond.methodLink own index M.1 ∈ gtb) (hi : Cond.instanceMethod M.1 ∈ gtb) (hse : Cond.selects M.1.cls M.1 M.1 ∈ gtb) (hd : (parseMethodDescriptor M.1.desc).map (fun d => d.parameters.length) = some b) (hn : As.length = b) (hR : M.2.2.2.2.frames + 1 ≤ rm.frames ∧ 8 + (M.2.2.1 + 11) + M.2.2.2.2.locals ≤ rm.locals) (hrm : kc ≤ rm.cells ∧ nc ≤ rm.slots) (hm : (t, a) ∈ E.U) {T : u_T} (hcl : q_cl t M.1.cls T) (hst : st = As.reverse ++ .ref (E.ad t a) :: rest) (hr : (rest.map fun v => v.category).sum ≤ 8) (d : decode cc pc = .ok (.invokevirtual index, 3)) (kk : ∀ (r : Int32) (u : Wi) (v : Wj), post r (u, v) → VC K E.D A nL Q kc nc (pc + 3) lv (.int r :: rest) (wc E u v)) : VC K E.D A nL Q kc nc pc lv st (wc E w z) := by
  intro H locs ls hls hP hD hS
  have hR2 := C.2.2.2.2.2.2.2.1
  obtain ⟨j, -, hj⟩ := wc_at (w := w) (z := z) hm
  rw [show q_e E w z t a = .inr (t, (List.range (q_N t)).map (q_fv E w z t a)) from if_pos hcl.1] at hj
  have hF := k_free C hD hS
  refine va_calli (va_runV (Ts := gtb) (As := As) (rest := rest) (C := M.1.cls) ⟨C.1, C.2.1, C.2.2.1, C.2.2.2.1, C.2.2.2.2.1⟩ (hc K.l H.size) ⟨q_cb (Ts := gtb) hM C.2.2.2.2.1 hl hd (by rw [hR2]; exact hR), C.2.2.2.2.1 _ hi, C.2.2.2.2.1 _ hse⟩ ⟨q_blindS _ _ _ _ _, va_recv C.2.2.2.2.2.1 hP hcl.2.1 hj, fun U hU hW => ⟨⟨rfl, by rw [hU], by rw [hU]; exact hP, va_K.moved hW.alike C.2.2.2.2.2.1, hD.weaken (fun _ _ _ _ => trivial)⟩, SOK.call SO (by rw [hU]; exact hS) hW hF⟩⟩ rfl hn hls.1 hst (lv_room hr) d ⟨by rw [hR2]; exact hrm.1, by rw [hR2]; exact hrm.2⟩) hS (fun q _ h => hF q h) hF (fun r u t' H1 locs1 ht hvm hw hB hz1 hk1 hS1 => ?_)
  obtain ⟨hP1, hK1, hD1⟩ := hB
  rw [ht] at hP1
  exact kk r u.1 u.2 hw H1 locs1 ls hls hP1 (hD1.weaken (fun _ _ _ h => hF _ h)) hS1
/-- the law's own helper, which may take a throw -/
theorem k_LS {E : En} (C : CB K E.D (q_tys E) A cc nL own rm) (SO : SOK E A K.s) (TX : TXK A K.s) {y : MethodName} {bytes : ByteArray} {maxL : Nat} {hh : List (Nat × Nat × Nat × Nat)} {index : Nat} {rest : List Value} {post : Int32 → WW → Prop} {k2 n2 : Nat} (As : List Value) (b : Nat) (hc : ∀ sz, Met K.l y (Cond.codeWith y bytes maxL (some .int) hh :: gtb) { frames := 7, cells := 1, slots := 6, locals := 240 } (q_PreX E w z As sz) (va_Qi post (q_B E (va_A (wc E w z) sz)) (va_A (wc E w z) sz)) 1 6 (va_A (wc E w z) sz)) (hcode : Cond.codeWith y bytes maxL (some .int) hh ∈ gtb) (hl : Cond.methodLink own index y ∈ gtb) (hst0 : Cond.static y ∈ gtb) (hini : Cond.initialized y.cls ∈ gtb) (hd : y.cls ≠ "java/lang/invoke/MethodHandle" ∧ y.cls ≠ "java/lang/invoke/VarHandle" ∧ (parseMethodDescriptor y.desc).map (fun d => d.parameters.length) = some b) (hn : As.length = b) (hR : 7 + 1 ≤ rm.frames ∧ 8 + (maxL + 11) + 240 ≤ rm.locals) (hk : kc + 1 = k2) (hn2 : nc + 6 = n2) (hrm : k2 ≤ rm.cells ∧ n2 ≤ rm.slots) (hst : st = As.reverse ++ rest) (hr : (rest.map fun v => v.category).sum ≤ 8) (d : decode cc pc = .ok (.invokestatic index, 3)) (kk : ∀ (r : Int32) (u : Wi) (v : Wj), post r (u, v) → VC K E.D A nL Q k2 n2 (pc + 3) lv (.int r :: rest) (wc E u v)) : VC K E.D A nL Q kc nc pc lv st (wc E w z) := by
  intro H locs ls hls hP hD hS
  subst hk
  subst hn2
  have hR2 := C.2.2.2.2.2.2.2.1
  have hF := k_free C hD hS
  have ht := C.2.2.2.2.1
  have hg : GoodIn gtb (va_wsS own index y (Cond.codeWith y bytes maxL (some .int) hh :: gtb)) := by
    intro v hv
    have : v ∈ gtb := by
      simp only [va_wsS, List.cons_append, List.nil_append, List.mem_cons] at hv
      rcases hv with rfl | rfl | rfl | rfl | hv
      · exact hl
      · exact hst0
      · exact hini
      · exact hcode
      · exact hv
    exact ⟨this, good_of_word (List.mem_filter.mp this).2⟩
  refine va_calli (vx_runSW (Ts := gtb) (As := As) (rest := rest) ⟨C.1, C.2.1, C.2.2.1, C.2.2.2.1, ht⟩ (hc H.size) (vx_cwSW (own := own) (index := index) b ht hg rfl rfl rfl hd (by rw [hR2]; exact hR)) ⟨q_blindX _ _ _ _ _, fun U hU hW => ⟨⟨⟨rfl, by rw [hU], by rw [hU]; exact hP, va_K.moved hW.alike C.2.2.2.2.2.1, hD.weaken (fun _ _ _ _ => trivial)⟩, SOK.call SO (by rw [hU]; exact hS) hW hF⟩, TXK.call TX (by rw [hU]; exact hS) hW hF⟩⟩ rfl hn hls.1 hst (lv_room hr) d ⟨by rw [hR2]; exact hrm.1, by rw [hR2]; exact hrm.2⟩) hS (fun q _ h => hF q h) hF (fun r u t' H1 locs1 ht hvm hw hB hz1 hk1 hS1 => ?_)
  obtain ⟨hP1, hK1, hD1⟩ := hB
  rw [ht] at hP1
  exact kk r u.1 u.2 hw H1 locs1 ls hls hP1 (hD1.weaken (fun _ _ _ h => hF _ h)) hS1
/-- the script -/
def SCR (K : Pk) (A : Nat → Prop) (b L : Nat) (xs : Row) : Prop := va_X b L xs K.s K.s.heap ∧ b < K.s.heap.size ∧ ¬ A b
theorem k_slen (C : CB K D tys A cc nL own rm) {b L : Nat} {xs : Row} {v : Int32} (hX : SCR K A b L xs) (hv : Int32.ofNat L = v) (d : decode cc pc = .ok (.arraylength, 1)) (kk : VC K D A nL Q kc nc (pc + 1) lv (.int v :: st) ws) : VC K D A nL Q kc nc pc lv (.ref b :: st) ws := by
  intro H locs ls hls hP hD hS
  subst hv
  exact va_slen C.1 C.2.1 hX.1 hX.2.1 hX.2.2 hS d (kk H locs ls hls hP hD hS)
theorem k_sld (C : CB K D tys A cc nL own rm) {b L : Nat} {xs : Row} {i : Int32} (hX : SCR K A b L xs) (hin : vp_in i L) (d : decode cc pc = .ok (.iaload, 1)) (kk : VC K D A nL Q kc nc (pc + 1) lv (.int (xs i.toNatClampNeg) :: st) ws) : VC K D A nL Q kc nc pc lv (.int i :: .ref b :: st) ws := by
  intro H locs ls hls hP hD hS
  exact va_sld C.1 C.2.1 hX.1 hX.2.1 hX.2.2 hS hin d (kk H locs ls hls hP hD hS)
theorem k_widen {k2 n2 : Nat} (h1 : kc ≤ k2) (h2 : nc ≤ n2) (kk : VC K D A nL Q k2 n2 pc lv st ws) : VC K D A nL Q kc nc pc lv st ws := fun H locs ls hls hP hD hS => W.widen h1 h2 (kk H locs ls hls hP hD hS)
theorem k_l {lv2 : List (Nat × Value)} (ks : List Nat) (h : lv_pick lv ks = lv2) (k : VC K D A nL Q kc nc pc lv2 st ws) : VC K D A nL Q kc nc pc lv st ws := fun H locs ls hl hP hD hS => k H locs ls (lv_sub hl ks h) hP hD hS
end LR
