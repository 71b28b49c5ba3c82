def nestL : List (String × Nat × MethodName) := [(RX11, 11, yX7_init), (RX9, 11, yX5_init), (RX3, 11, yX4_init), (RX11, 43, yX5_init), (RX11, 50, yX4_init), (RX11, 57, yX0_init), (RX11, 64, yX6_init), (RX10, 11, yX5_init), (RX10, 20, yX0_init), (RX10, 30, yX6_init), (RX2, 13, yX5_init), (RX2, 20, yX0_init), (RX11, 87, yX1_init)]
set_option maxRecDepth 100000 in
theorem xk_103 : Cond.code objectInit ⟨#[0xb1]⟩ 1 none ∈ gtb := mem_g 103 (by rfl) (by decide +kernel)
theorem xk_122 : Cond.arrayClass .int ∈ gtb := mem_g 122 (by decide +kernel) (by decide +kernel)
theorem xk_495 : Cond.arrayClass .boolean ∈ gtb := mem_g 495 (by decide +kernel) (by decide +kernel)
theorem xk_494 : Cond.arrayClass .long ∈ gtb := mem_g 494 (by decide +kernel) (by decide +kernel)
theorem xk_162 : Cond.classLink RX9 9 RX5 ∈ gtb := mem_g 162 (by decide +kernel) (by decide +kernel)
theorem xk_163 : Cond.instantiable RX5 10 ∈ gtb := mem_g 163 (by decide +kernel) (by decide +kernel)
theorem xk_237 : Cond.classLink RX3 9 RX4 ∈ gtb := mem_g 237 (by decide +kernel) (by decide +kernel)
theorem xk_238 : Cond.instantiable RX4 5 ∈ gtb := mem_g 238 (by decide +kernel) (by decide +kernel)
theorem xk_351 : Cond.classLink RX10 9 RX5 ∈ gtb := mem_g 351 (by decide +kernel) (by decide +kernel)
theorem xk_353 : Cond.classLink RX10 18 RX0 ∈ gtb := mem_g 353 (by decide +kernel) (by decide +kernel)
theorem xk_276 : Cond.instantiable RX0 10 ∈ gtb := mem_g 276 (by decide +kernel) (by decide +kernel)
theorem xk_355 : Cond.classLink RX10 28 RX6 ∈ gtb := mem_g 355 (by decide +kernel) (by decide +kernel)
theorem xk_315 : Cond.instantiable RX6 7 ∈ gtb := mem_g 315 (by decide +kernel) (by decide +kernel)
theorem xk_406 : Cond.classLink RX2 11 RX5 ∈ gtb := mem_g 406 (by decide +kernel) (by decide +kernel)
theorem xk_408 : Cond.classLink RX2 18 RX0 ∈ gtb := mem_g 408 (by decide +kernel) (by decide +kernel)
theorem xk_104 : Cond.classLink RX11 9 RX7 ∈ gtb := mem_g 104 (by decide +kernel) (by decide +kernel)
theorem xk_105 : Cond.instantiable RX7 2 ∈ gtb := mem_g 105 (by decide +kernel) (by decide +kernel)
theorem xk_123 : Cond.classLink RX11 16 RX8 ∈ gtb := mem_g 123 (by decide +kernel) (by decide +kernel)
theorem xk_124 : Cond.instantiable RX8 8 ∈ gtb := mem_g 124 (by decide +kernel) (by decide +kernel)
theorem xk_156 : Cond.classLink RX11 25 RX9 ∈ gtb := mem_g 156 (by decide +kernel) (by decide +kernel)
theorem xk_157 : Cond.instantiable RX9 4 ∈ gtb := mem_g 157 (by decide +kernel) (by decide +kernel)
theorem xk_231 : Cond.classLink RX11 34 RX3 ∈ gtb := mem_g 231 (by decide +kernel) (by decide +kernel)
theorem xk_232 : Cond.instantiable RX3 2 ∈ gtb := mem_g 232 (by decide +kernel) (by decide +kernel)
theorem xk_271 : Cond.classLink RX11 41 RX5 ∈ gtb := mem_g 271 (by decide +kernel) (by decide +kernel)
theorem xk_273 : Cond.classLink RX11 48 RX4 ∈ gtb := mem_g 273 (by decide +kernel) (by decide +kernel)
theorem xk_275 : Cond.classLink RX11 55 RX0 ∈ gtb := mem_g 275 (by decide +kernel) (by decide +kernel)
theorem xk_314 : Cond.classLink RX11 62 RX6 ∈ gtb := mem_g 314 (by decide +kernel) (by decide +kernel)
theorem xk_345 : Cond.classLink RX11 69 RX10 ∈ gtb := mem_g 345 (by decide +kernel) (by decide +kernel)
theorem xk_346 : Cond.instantiable RX10 14 ∈ gtb := mem_g 346 (by decide +kernel) (by decide +kernel)
theorem xk_400 : Cond.classLink RX11 78 RX2 ∈ gtb := mem_g 400 (by decide +kernel) (by decide +kernel)
theorem xk_401 : Cond.instantiable RX2 18 ∈ gtb := mem_g 401 (by decide +kernel) (by decide +kernel)
theorem xk_468 : Cond.classLink RX11 85 RX1 ∈ gtb := mem_g 468 (by decide +kernel) (by decide +kernel)
theorem xk_469 : Cond.instantiable RX1 6 ∈ gtb := mem_g 469 (by decide +kernel) (by decide +kernel)
/-! constructors: the object at hand and a list of cells behind it -/
abbrev Mn : Type := MethodName × ByteArray × Nat × Room
def Mn.w (M : Mn) : List Cond := .code M.1 M.2.1 M.2.2.1 none :: gtb
def Mn.ok (M : Mn) : Prop := plainName M.1.cls = true ∧ M.1.cls ≠ "java/lang/invoke/MethodHandle" ∧ M.1.cls ≠ "java/lang/invoke/VarHandle" ∧ Cond.initialized M.1.cls ∈ gtb ∧ Cond.code M.1 M.2.1 M.2.2.1 none ∈ gtb ∧ Cond.instanceMethod M.1 ∈ gtb ∧ M.1.name = "<init>"
theorem Mn.good {M : Mn} (hM : M.ok) : GoodIn gtb M.w := by
  intro w hw
  have : w ∈ gtb := (List.mem_cons.mp hw).elim (fun h => h ▸ hM.2.2.2.2.1) id
  exact ⟨this, good_of_word (List.mem_filter.mp this).2⟩
def NST (U : State) : Prop := ∀ q ∈ nestL, va_Nw (.methodLinkNest q.1 q.2.1 q.2.2 RX11) U
theorem NST.warm {s U : State} (hW : s.WarmedH U.vm) (h : NST s) : NST U := fun q hq => va_Nw.warmM hW (h q hq)
theorem NST.same {u U : State} (e : u.vm = U.vm) (h : NST u) : NST U := fun q hq => va_Nw.same rfl e (h q hq)
def NB (D : va_G) (tys : List (ClassId × FieldType)) (A : Nat → Prop) (ws : va_W) (t : State) : Prop := va_P D classes ws t.heap ∧ va_K D classes tys t ∧ va_D A ws
def NPre (D : va_G) (tys : List (ClassId × FieldType)) (As : List Value) (ws : va_W) (sz : Nat) : Array Value → State → Prop := va_Pc As (fun U => U.heap.size = sz ∧ va_P D classes ws U.heap ∧ va_K D classes tys U ∧ va_D (fun _ => True) ws ∧ NST U)
def CtN (M : Mn) (D : va_G) (tys : List (ClassId × FieldType)) (As : List Value) (x : Nat × va_E) (post : va_W → Prop) : Prop := ∀ (l : Launch) (sz : Nat), Met l M.1 M.w M.2.2.2 (NPre D tys As [x] sz) (va_Qv post (NB D tys (va_A [x] sz)) (va_A [x] sz)) M.2.2.2.cells M.2.2.2.slots (va_A [x] sz)
def CB (K : Pk) (D : va_G) (tys : List (ClassId × FieldType)) (A : Nat → Prop) (cc : ByteArray) (nL : Nat) (own : String) (rm : Room) : Prop :=
  K.1.tables.exec = Jvm.exec ∧ K.c.code = cc ∧ K.c.maxLocals = nL ∧ K.s.vm.findClass own = some K.m.cls ∧ (∀ w ∈ gtb, w.before K.args K.s = true) ∧ va_K D classes tys K.s ∧ (∀ q, K.s.heap.size ≤ q → A q) ∧ K.R = rm ∧ NST K.s
def CC (K : Pk) (D : va_G) (tys : List (ClassId × FieldType)) (A : Nat → Prop) (cc : ByteArray) (nL : Nat) (own : String) (rm : Room) : Prop :=
  CB K D tys A cc nL own rm ∧ K.meth.sig.returnType = none ∧ K.meth.locks = false ∧ K.meth.name = "<init>"
def VC (K : Pk) (D : va_G) (A : Nat → Prop) (nL : Nat) (Q : State → Prop) (k n : Nat) (pc : Nat) (lv : List (Nat × Value)) (st : List Value) (ws : va_W) : Prop :=
  ∀ (H : Heap) (locs : List Loc) (ls : Array Slot), lv_has ls nL lv → va_P D classes ws H → va_D A ws → va_S A K.s.heap H locs → W K.1 K.l K.2.2.1 K.R K.s K.m K.args K.below K.meth K.c H locs k n Q (F0 K.m pc ls st)
def QN (K : Pk) (D : va_G) (tys : List (ClassId × FieldType)) (A : Nat → Prop) (post : va_W → Prop) (mc ms : Nat) : State → Prop := MQ K.below (va_Qv post (NB D tys A) A) K.args K.s mc ms A
theorem ctN_of {M : Mn} {D : va_G} {tys : List (ClassId × FieldType)} {As : List Value} {x : Nat × va_E} {post : va_W → Prop} {lv : List (Nat × Value)} (hM : M.ok) (hn : (lg_sl As).length ≤ M.2.2.1) (hlv : lv_args 0 As = lv) (h : ∀ (K : Pk) (A : Nat → Prop), CC K D tys A M.2.1 M.2.2.1 M.1.cls M.2.2.2 → VC K D A M.2.2.1 (QN K D tys A post M.2.2.2.cells M.2.2.2.slots) 0 0 0 lv [] [x]) : CtN M D tys As x post := by
  intro l sz
  refine Met.ofW (cc := M.2.1) (maxL := M.2.2.1) (ret := none) hM.1 rfl ?_
  intro p e s m args below meth c s₁ B hml hv
  obtain ⟨rfl, hsz, hP, hK, hD0, hN⟩ := hv
  have hts := atoms_spec (ws := M.w) B.pre
  have hown : s.vm.findClass M.1.cls = some m.cls := findClass_of_methodNamed B.named
  have hin : meth.name = "<init>" := (name_of_methodNamed B.named B.method).1.trans hM.2.2.2.2.2.2
  subst hsz
  have hD := hD0.self (sz := s.heap.size)
  have hl := lv_entry As (n := M.2.2.1) hn
  rw [lg_entry_eq]
  rw [hlv] at hl
  exact h (p, l, e, (headSpec M.w M.2.2.2).room, s, m, As.toArray, below, meth, c) (va_A [x] s.heap.size) ⟨⟨B.exec, B.bytes, hml, hown, fun w h => hts w (List.mem_cons_of_mem _ h), hK, fun q h => Or.inr h, rfl, hN⟩, B.returns, B.notSynchronized, hin⟩ s.heap [] _ hl hP hD va_S.rf
/-- what a call leaves of the cells that it wasn't given -/
theorem vc_join {A0 : Nat → Prop} {D : va_G} {cl : List vw_C} {U wk w1 : va_W} {H H1 : Heap} (hP : va_P D cl (U ++ wk) H) (hD : va_D A0 (U ++ wk)) (hk : ∀ q : Nat, q < H.size → ¬ va_A wk H.size q → H1[q]? = H[q]?) (hF : ∀ q, va_A wk H.size q → A0 q) (hP1 : va_P D cl w1 H1) (hD1 : va_D (va_A wk H.size) w1) : va_P D cl (U ++ w1) H1 ∧ va_D A0 (U ++ w1) := by
  have inU : ∀ (i : Nat) (q : Nat × va_E), U[i]? = some q → (U ++ wk)[i]? = some q := fun i q h => by
    rw [List.getElem?_append_left (List.getElem?_eq_some_iff.mp h).1]; exact h
  have no : ∀ (i : Nat) (q : Nat × va_E), U[i]? = some q → ¬ va_A wk H.size q.1 := by
    intro i q h z
    rcases z with ⟨j, e, hj⟩ | z
    · have h2 : (U ++ wk)[U.length + j]? = some (q.1, e) := by
        rw [List.getElem?_append_right (Nat.le_add_right _ _), Nat.add_sub_cancel_left]; exact hj
      have h3 := hD.1 i (U.length + j) q (q.1, e) (inU i q h) h2 rfl
      have := (List.getElem?_eq_some_iff.mp h).1
      omega
    · have := (hP i q (inU i q h)).lt
      omega
  have hPU : va_P D cl U H := fun i q h => hP i q (inU i q h)
  have hDU : va_D A0 U := ⟨fun i j p q h1 h2 e => hD.1 i j p q (inU i p h1) (inU j q h2) e, fun i q h => hD.2 i q (inU i q h)⟩
  refine ⟨(hPU.kept (fun i q h => hk q.1 (hPU i q h).lt (no i q h))).app hP1, hDU.app (hD1.weaken (fun _ _ _ h => hF _ h)) (fun i j p q h1 h2 e => ?_)⟩
  exact no i p h1 (by rw [e]; exact hD1.2 j q h2)
section KR
variable {K : Pk} {D : va_G} {tys : List (ClassId × FieldType)} {A : Nat → Prop} {cc : ByteArray} {nL : Nat} {own : String} {rm : Room} {Q : State → Prop} {k n pc : Nat} {lv : List (Nat × Value)} {st : List Value} {ws R : va_W} {x : Nat × va_E}
theorem k_aload_n (C : CB K D tys A cc nL own rm) {i : Fin 4} {v : Nat} (j : Nat) (d : decode cc pc = .ok (.aload_n i, 1)) (hj : lv[j]? = some ((i : Nat), .ref v)) (kk : VC K D A nL Q k n (pc + 1) lv (.ref v :: st) ws) : VC K D A nL Q k n pc lv st ws := fun H locs ls hl hP hD hS => lv_aload_n C.1 C.2.1 d rfl (lv_at hl j hj) (kk H locs ls hl hP hD hS)
theorem k_iconst (C : CB K D tys A cc nL own rm) {a : Int} {v : Int32} (d : decode cc pc = .ok (.iconst a, 1)) (hv : Int32.ofInt a = v) (kk : VC K D A nL Q k n (pc + 1) lv (.int v :: st) ws) : VC K D A nL Q k n pc lv st ws := fun H locs ls hl hP hD hS => lv_iconst C.1 C.2.1 d hv (kk H locs ls hl hP hD hS)
theorem k_bipush (C : CB K D tys A cc nL own rm) {a : Int} {v : Int32} (d : decode cc pc = .ok (.bipush a, 2)) (hv : (Int8.ofInt a).toInt32 = v) (kk : VC K D A nL Q k n (pc + 2) lv (.int v :: st) ws) : VC K D A nL Q k n pc lv st ws := fun H locs ls hl hP hD hS => lv_bipush C.1 C.2.1 d hv (kk H locs ls hl hP hD hS)
theorem k_sipush (C : CB K D tys A cc nL own rm) {a : Int} {v : Int32} (d : decode cc pc = .ok (.sipush a, 3)) (hv : (Int16.ofInt a).toInt32 = v) (kk : VC K D A nL Q k n (pc + 3) lv (.int v :: st) ws) : VC K D A nL Q k n pc lv st ws := fun H locs ls hl hP hD hS => lv_sipush C.1 C.2.1 d hv (kk H locs ls hl hP hD hS)
theorem k_dup (C : CB K D tys A cc nL own rm) {v : Value} (d : decode cc pc = .ok (.dup, 1)) (h : v.category = 1) (kk : VC K D A nL Q k n (pc + 1) lv (v :: v :: st) ws) : VC K D A nL Q k n pc lv (v :: st) ws := fun H locs ls hl hP hD hS => lv_dup C.1 C.2.1 d h (kk H locs ls hl hP hD hS)
theorem k_obj (C : CB K D tys A cc nL own rm) {idx h0 : Nat} (hl : Cond.methodLink own idx objectInit ∈ gtb) (hi : Cond.instanceMethod objectInit ∈ gtb) (hc : Cond.code objectInit ⟨#[0xb1]⟩ 1 none ∈ gtb) (hR : 1 ≤ rm.frames ∧ 20 ≤ rm.locals) (hr : (st.map fun v => v.category).sum ≤ 8) (d : decode cc pc = .ok (.invokespecial idx, 3)) (kk : VC K D A nL Q k n (pc + 3) lv st ws) : VC K D A nL Q k n pc lv (.ref h0 :: st) ws := by
  intro H locs ls hls hP hD hS
  have hR2 := C.2.2.2.2.2.2.2.1
  have h8 : 2 * (F0 K.m pc ls (.ref h0 :: st)).monitorRoom + (st.map fun v => v.category).sum ≤ 8 := lv_room hr
  exact W.objInit C.1 C.2.1 C.2.2.2.1 (C.2.2.2.2.1 _ hl) (C.2.2.2.2.1 _ hi) (C.2.2.2.2.1 _ hc) rfl (hls.1.trans C.2.2.1.symm) rfl d (by rw [hR2]; exact hR.1) (by rw [hR2]; omega) (kk H locs ls hls hP hD hS)
theorem k_get (C : CB K D tys A cc nL own rm) {CN : String} {T : u_T} {index ci h0 : Nat} {fs : List Value} (f : Nat) {v : Value} (hcl : q_cl ci CN T) (hf : f < q_N ci) (hl : Cond.fieldLink own index (T f).1 (T f).2.1 (T f).2.2.1 ∈ gtb) (hv : fs[f]? = some v) (d : decode cc pc = .ok (.getfield index, 3)) (kk : VC K D A nL Q k n (pc + 3) lv (v :: st) ((h0, .inr (ci, fs)) :: R)) : VC K D A nL Q k n pc lv (.ref h0 :: st) ((h0, .inr (ci, fs)) :: R) := by
  intro H locs ls hls hP hD hS
  exact va_get (D := D) (ci := ci) (C := CN) (T := T) (N := q_N ci) C.1 C.2.1 C.2.2.2.2.1 hcl.2.2 C.2.2.2.1 C.2.2.2.2.2.1 hP 0 rfl hcl.2.1 f hf (C.2.2.2.2.1 _ hl) (fun _ h9 => h9) hv d (kk H locs ls hls hP hD hS)
theorem k_put (C : CB K D tys A cc nL own rm) {CN : String} {T : u_T} {tyf : Nat → FieldType} {index ci h0 : Nat} {fs fs2 : List Value} (f : Nat) {v : Value} (hcl : q_cl ci CN T) (hty : q_ty T tyf (q_N ci)) (hf : f < q_N ci) (h0f : (T f).2.2.2 = false) (hl : Cond.fieldLink own index (T f).1 (T f).2.1 (T f).2.2.1 ∈ gtb) (hn : narrow (tyf f) v = v) (hfit : fits (tyf f) v = true) (hlen : f < fs.length) (hs : fs.set f v = fs2) (d : decode cc pc = .ok (.putfield index, 3)) (kk : VC K D A nL Q k n (pc + 3) lv st ((h0, .inr (ci, fs2)) :: R)) : VC K D A nL Q k n pc lv (v :: .ref h0 :: st) ((h0, .inr (ci, fs)) :: R) := by
  intro H locs ls hls hP hD hS
  subst hs
  exact va_put (D := D) (ci := ci) (ty := tyf f) (C := CN) (T := T) (N := q_N ci) C.1 C.2.1 C.2.2.2.2.1 hcl.2.2 tyf hty.1 hty.2 C.2.2.2.1 C.2.2.2.2.2.1 hP hD hS 0 rfl hcl.2.1 f hf (C.2.2.2.2.1 _ hl) (fun _ h9 => h9) h0f (hty.1 f hf) hn hfit hlen d (fun H1 locs1 hP1 hD1 hS1 => kk H1 locs1 ls hls hP1 hD1 hS1)
theorem k_putF (C0 : CC K D tys A cc nL own rm) {CN : String} {T : u_T} {tyf : Nat → FieldType} {index ci h0 : Nat} {fs fs2 : List Value} (f : Nat) {v : Value} (hcl : q_cl ci CN T) (hty : q_ty T tyf (q_N ci)) (hf : f < q_N ci) (h0f : (T f).2.2.2 = true) (hdecl : (T f).1 = own) (hl : Cond.fieldLink own index (T f).1 (T f).2.1 (T f).2.2.1 ∈ gtb) (hn : narrow (tyf f) v = v) (hfit : fits (tyf f) v = true) (hlen : f < fs.length) (hs : fs.set f v = fs2) (d : decode cc pc = .ok (.putfield index, 3)) (kk : VC K D A nL Q k n (pc + 3) lv st ((h0, .inr (ci, fs2)) :: R)) : VC K D A nL Q k n pc lv (v :: .ref h0 :: st) ((h0, .inr (ci, fs)) :: R) := by
  intro H locs ls hls hP hD hS
  have C := C0.1
  subst hs
  exact va_putF (D := D) (ci := ci) (ty := tyf f) (C := CN) (T := T) (N := q_N ci) C.1 C.2.1 C.2.2.2.2.1 hcl.2.2 tyf hty.1 hty.2 C.2.2.2.1 C.2.2.2.2.2.1 hP hD hS 0 rfl hcl.2.1 f hf (C.2.2.2.2.1 _ hl) (fun _ h9 => h9) h0f C0.2.2.2 hdecl (hty.1 f hf) hn hfit hlen d (fun H1 locs1 hP1 hD1 hS1 => kk H1 locs1 ls hls hP1 hD1 hS1)
theorem k_newa (C : CB K D tys A cc nL own rm) (aty : ArrayType) {ty : FieldType} (hty : newarray.typeOf aty = ty) (hw : Cond.arrayClass (newarray.typeOf aty) ∈ gtb) (ti : Nat) {cA : ClassId} (htk : tys[ti]? = some (cA, ty)) (hra : ∀ c : ClassId, va_RA K.s c ty = (K.s.vm.findClass ("[" ++ ty.toString) = some c)) {v : Int32} {N k2 n2 : Nat} {a0 : vp_A} (ha : ∀ c : ClassId, vp_cell c a0 = arrV c N (fun _ => defaultValue ty)) (hv : ¬ v < 0) (hN : v.toNatClampNeg = N) (hb : N * componentBytes ty ≤ 536870912) (hk : k + 1 = k2) (hn : n + N = n2) (hrm : k2 ≤ rm.cells ∧ n2 ≤ rm.slots) (d : decode cc pc = .ok (.newarray aty, 2)) (kk : ∀ q : Nat, VC K D A nL Q k2 n2 (pc + 2) lv (.ref q :: st) (x :: (R ++ [(q, .inl (cA, a0))]))) : VC K D A nL Q k n pc lv (.int v :: st) (x :: R) := by
  intro H locs ls hls hP hD hS
  have hR2 := C.2.2.2.2.2.2.2.1
  subst hk
  subst hn
  refine va_newa C.1 C.2.1 (C.2.2.2.2.1 _ hw) hty C.2.2.2.2.2.1 hP hD hS C.2.2.2.2.2.2.1 ha hv hN hb (by rw [hR2]; exact hrm.1) (by rw [hR2]; exact hrm.2) d (fun q cB H1 hK1 hP1 hD1 hS1 => ?_)
  have e1 : va_RA K.s cB ty := (hK1.2 tys.length (cB, ty) (by simp)).2
  have e2 : va_RA K.s cA ty := (C.2.2.2.2.2.1.2 ti (cA, ty) htk).2
  rw [hra] at e1 e2
  cases Option.some.inj (e1.symm.trans e2)
  exact kk q H1 locs ls hls hP1 hD1 hS1
theorem k_iast (C : CB K D tys A cc nL own rm) (ti : Nat) {cA : ClassId} (htk : tys[ti]? = some (cA, .int)) {q N : Nat} {f : Row} {i v : Int32} {j : Nat} (hj : i.toNatClampNeg = j) (hin : vp_in i N) (d : decode cc pc = .ok (.iastore, 1)) (kk : VC K D A nL Q k n (pc + 1) lv st (x :: (R ++ [(q, .inl (cA, N, .inl (upd f j v)))]))) : VC K D A nL Q k n pc lv (.int v :: .int i :: .ref q :: st) (x :: (R ++ [(q, .inl (cA, N, .inl f))])) := by
  intro H locs ls hls hP hD hS
  subst hj
  have e : (x :: (R ++ [(q, (.inl (cA, N, .inl f) : va_E))]))[R.length + 1]? = some (q, .inl (cA, N, .inl f)) := by simp
  have e2 : ∀ y : Nat × va_E, (x :: (R ++ [(q, (.inl (cA, N, .inl f) : va_E))])).set (R.length + 1) y = x :: (R ++ [y]) := fun y => by simp
  refine va_iast C.1 C.2.1 C.2.2.2.2.2.1 hP hD hS (R.length + 1) ti e htk hin d (fun H1 locs1 hP1 hD1 hS1 => ?_)
  rw [e2] at hP1 hD1
  exact kk H1 locs1 ls hls hP1 hD1 hS1
theorem k_new (C : CB K D tys A cc nL own rm) {CN : String} {T : u_T} {tyf : Nat → FieldType} {index ci k2 n2 N : Nat} {fs : List Value} (hcl : q_cl ci CN T) (hty : q_ty T tyf (q_N ci)) (hN : q_N ci = N) (h1 : Cond.classLink own index CN ∈ gtb) (h2 : Cond.instantiable CN N ∈ gtb) (h3 : Cond.initialized CN ∈ gtb) (hfs : ∀ j, j < N → defaultValue (tyf j) = vp_V fs j) (hk : k + 1 = k2) (hn : n + N = n2) (hrm : k2 ≤ rm.cells ∧ n2 ≤ rm.slots) (d : decode cc pc = .ok (.new index, 3)) (kk : ∀ q : Nat, VC K D A nL Q k2 n2 (pc + 3) lv (.ref q :: st) (x :: (R ++ [(q, .inr (ci, fs))]))) : VC K D A nL Q k n pc lv st (x :: R) := by
  intro H locs ls hls hP hD hS
  have hR2 := C.2.2.2.2.2.2.2.1
  subst hk
  subst hn
  subst hN
  exact va_new (ci := ci) (fs := fs) (C := CN) (T := T) (N := q_N ci) C.1 C.2.1 C.2.2.2.2.1 hcl.2.2 tyf hty.1 C.2.2.2.1 (C.2.2.2.2.1 _ h1) (C.2.2.2.2.1 _ h2) (C.2.2.2.2.1 _ h3) C.2.2.2.2.2.1 hP hD hS C.2.2.2.2.2.2.1 hcl.2.1 hfs (by rw [hR2]; exact hrm.1) (by rw [hR2]; exact hrm.2) d (fun q H1 hP1 hD1 hS1 => kk q H1 locs ls hls hP1 hD1 hS1)
theorem nb_blind (D : va_G) (tys : List (ClassId × FieldType)) (As : List Value) (ws : va_W) (sz : Nat) : FrameBlind (NPre D tys As ws sz) := fun a U g mk q => by
  obtain ⟨q0, q1, qP, qK, qD, qN⟩ := q
  exact ⟨q0, q1, qP, va_K.moved (u := U) (U := U.calling g mk a) (Vm.Alike.refl U.vm) qK, qD, NST.same rfl qN⟩
/-- what a call of a constructor begins with -/
theorem k_pre {y : Nat × va_E} {H : Heap} {locs : List Loc} (C : CB K D tys A cc nL own rm) (hP : va_P D classes (ws ++ [y]) H) (hD : va_D A (ws ++ [y])) (hS : va_S A K.s.heap H locs) (As : List Value) : PreS K.s H (NPre D tys As [y] H.size) As ∧ ∀ q, va_A [y] H.size q → A q := by
  have e : (ws ++ [y])[ws.length]? = some y := by simp
  have hP2 : va_P D classes [y] H := fun i q h => by
    cases i with
    | zero => cases h; exact hP ws.length y e
    | succ i => cases h
  have hD2 : va_D A [y] := ⟨fun i j p q h1 h2 _ => by
    have a1 := (List.getElem?_eq_some_iff.mp h1).1
    have a2 := (List.getElem?_eq_some_iff.mp h2).1
    simp at a1 a2
    omega, fun i q h => by
    cases i with
    | zero => cases h; exact hD.2 ws.length y e
    | succ i => cases h⟩
  refine ⟨⟨nb_blind _ _ _ _ _, fun U hU hW => ⟨rfl, by rw [hU], by rw [hU]; exact hP2, va_K.moved hW.alike C.2.2.2.2.2.1, hD2.weaken (fun _ _ _ _ => trivial), NST.warm hW C.2.2.2.2.2.2.2.2⟩⟩, fun q h => ?_⟩
  rcases h with ⟨i, e9, h⟩ | h
  · exact hD2.2 i (q, e9) h
  · exact C.2.2.2.2.2.2.1 q (Nat.le_trans hS.1 h)
theorem k_call (C : CB K D tys A cc nL own rm) {M : Mn} {index : Nat} {rest : List Value} {post : va_W → Prop} {k2 n2 : Nat} {e0 : va_E} (q : Nat) (As : List Value) (a : Nat) (hc : CtN M D tys (.ref q :: As) (q, e0) post) (hM : M.ok) (hl : Cond.methodLink own index M.1 ∈ gtb) (hd : (parseMethodDescriptor M.1.desc).map (fun d => d.parameters.length) = some a) (hn : As.length = a) (hR : M.2.2.2.frames + 1 ≤ rm.frames ∧ 8 + (M.2.2.1 + 11) + M.2.2.2.locals ≤ rm.locals) (hk : k + M.2.2.2.cells = k2) (hn2 : n + M.2.2.2.slots = n2) (hrm : k2 ≤ rm.cells ∧ n2 ≤ rm.slots) (hst : st = As.reverse ++ .ref q :: rest) (hr : (rest.map fun v => v.category).sum ≤ 8) (d : decode cc pc = .ok (.invokespecial index, 3)) (kk : ∀ w1, post w1 → VC K D A nL Q k2 n2 (pc + 3) lv rest (x :: (R ++ w1))) : VC K D A nL Q k n pc lv st (x :: (R ++ [(q, e0)])) := by
  intro H locs ls hls hP hD hS
  have hR2 := C.2.2.2.2.2.2.2.1
  subst hk
  subst hn2
  have hP : va_P D classes ((x :: R) ++ [(q, e0)]) H := hP
  have hD : va_D A ((x :: R) ++ [(q, e0)]) := hD
  obtain ⟨hpre, hF⟩ := k_pre C hP hD hS (.ref q :: As)
  refine va_callv (va_runI (Ts := gtb) (As := As) (rest := rest) ⟨C.1, C.2.1, C.2.2.1, C.2.2.2.1, C.2.2.2.2.1⟩ (hc K.l H.size) (cwI a C.2.2.2.2.1 (Mn.good hM) rfl rfl rfl (C.2.2.2.2.1 _ hM.2.2.2.1) (C.2.2.2.2.1 _ hl) (C.2.2.2.2.1 _ hM.2.2.2.2.2.1) hM.2.2.2.2.2.2 ⟨hM.2.1, hM.2.2.1, hd⟩ (by rw [hR2]; exact hR)) hpre rfl hn hls.1 hst (lv_room hr) d ⟨by rw [hR2]; exact hrm.1, by rw [hR2]; exact hrm.2⟩) hS (fun q _ h => hF q h) hF (fun u t H1 locs1 ht hvm hw hB hz1 hk1 hS1 => ?_)
  obtain ⟨hP1, hK1, hD1⟩ := hB
  rw [ht] at hP1
  obtain ⟨hP2, hD2⟩ := vc_join hP hD hk1 hF hP1 hD1
  exact kk u hw H1 locs1 ls hls hP2 hD2 hS1
theorem k_callN (C : CB K D tys A cc nL own rm) {M : Mn} {index : Nat} {rest : List Value} {post : va_W → Prop} {k2 n2 : Nat} {e0 : va_E} (q : Nat) (hc : CtN M D tys [.ref q] (q, e0) post) (hM : M.ok) (hl : (own, index, M.1) ∈ nestL) (hd : (parseMethodDescriptor M.1.desc).map (fun d => d.parameters.length) = some 0) (hR : M.2.2.2.frames + 1 ≤ rm.frames ∧ 8 + (M.2.2.1 + 11) + M.2.2.2.locals ≤ rm.locals) (hk : k + M.2.2.2.cells = k2) (hn2 : n + M.2.2.2.slots = n2) (hrm : k2 ≤ rm.cells ∧ n2 ≤ rm.slots) (hst : st = .ref q :: rest) (hr : (rest.map fun v => v.category).sum ≤ 8) (d : decode cc pc = .ok (.invokespecial index, 3)) (kk : ∀ w1, post w1 → VC K D A nL Q k2 n2 (pc + 3) lv rest (x :: (R ++ w1))) : VC K D A nL Q k n pc lv st (x :: (R ++ [(q, e0)])) := by
  intro H locs ls hls hP hD hS
  have hR2 := C.2.2.2.2.2.2.2.1
  subst hk
  subst hn2
  have hP : va_P D classes ((x :: R) ++ [(q, e0)]) H := hP
  have hD : va_D A ((x :: R) ++ [(q, e0)]) := hD
  obtain ⟨hpre, hF⟩ := k_pre C hP hD hS [.ref q]
  refine va_callv (va_runIN (Ts := gtb) (As := []) (rest := rest) (host := RX11) ⟨C.1, C.2.1, C.2.2.1, C.2.2.2.1, C.2.2.2.2.1⟩ (hc K.l H.size) ⟨va_cnB 0 C.2.2.2.2.1 (Mn.good hM) rfl rfl rfl (C.2.2.2.2.2.2.2.2 _ hl) (C.2.2.2.2.1 _ hM.2.2.2.1) ⟨hM.2.1, hM.2.2.1, hd⟩ (by rw [hR2]; exact hR), hM.2.2.2.2.2.2, C.2.2.2.2.1 _ hM.2.2.2.2.2.1⟩ hpre rfl rfl hls.1 hst (lv_room hr) d ⟨by rw [hR2]; exact hrm.1, by rw [hR2]; exact hrm.2⟩) hS (fun q _ h => hF q h) hF (fun u t H1 locs1 ht hvm hw hB hz1 hk1 hS1 => ?_)
  obtain ⟨hP1, hK1, hD1⟩ := hB
  rw [ht] at hP1
  obtain ⟨hP2, hD2⟩ := vc_join hP hD hk1 hF hP1 hD1
  exact kk u hw H1 locs1 ls hls hP2 hD2 hS1
theorem k_ret (C0 : CC K D tys A cc nL own rm) {post : va_W → Prop} {mc ms : Nat} (hk : k = mc) (hn : n = ms) (d : decode cc pc = .ok (.return_, 1)) (h : post ws) : VC K D A nL (QN K D tys A post mc ms) k n pc lv [] ws := by
  intro H locs ls hls hP hD hS
  have C := C0.1
  subst hk
  subst hn
  exact W.vret C.1 C.2.1 C0.2.1 (fun t ht hW => ⟨⟨ws, rfl, h, by rw [ht]; exact hP, va_K.moved hW.alike C.2.2.2.2.2.1, hD⟩, hS.F ht⟩) hS.2.2 d C0.2.2.1
end KR
theorem DX7_init_0 : decs cX7_init [(0, .aload_n 0, 1), (1, .invokespecial 3, 3), (4, .aload_n 0, 1), (5, .sipush 740, 3), (8, .newarray .int, 2), (10, .putfield 11, 3), (13, .aload_n 0, 1), (14, .iconst 0, 1), (15, .putfield 15, 3), (18, .return_, 1)] := by unfold decs; decide +kernel
theorem dX7_init_0 : decode cX7_init 0 = .ok (.aload_n 0, 1) := decs_at DX7_init_0 0 rfl
theorem dX7_init_1 : decode cX7_init 1 = .ok (.invokespecial 3, 3) := decs_at DX7_init_0 1 rfl
theorem dX7_init_4 : decode cX7_init 4 = .ok (.aload_n 0, 1) := decs_at DX7_init_0 2 rfl
theorem dX7_init_5 : decode cX7_init 5 = .ok (.sipush 740, 3) := decs_at DX7_init_0 3 rfl
theorem dX7_init_8 : decode cX7_init 8 = .ok (.newarray .int, 2) := decs_at DX7_init_0 4 rfl
theorem dX7_init_10 : decode cX7_init 10 = .ok (.putfield 11, 3) := decs_at DX7_init_0 5 rfl
theorem dX7_init_13 : decode cX7_init 13 = .ok (.aload_n 0, 1) := decs_at DX7_init_0 6 rfl
theorem dX7_init_14 : decode cX7_init 14 = .ok (.iconst 0, 1) := decs_at DX7_init_0 7 rfl
theorem dX7_init_15 : decode cX7_init 15 = .ok (.putfield 15, 3) := decs_at DX7_init_0 8 rfl
theorem dX7_init_18 : decode cX7_init 18 = .ok (.return_, 1) := decs_at DX7_init_0 9 rfl
theorem DX5_init_0 : decs cX5_init [(0, .aload_n 0, 1), (1, .invokespecial 3, 3), (4, .aload_n 0, 1), (5, .iconst 0, 1), (6, .putfield 9, 3), (9, .aload_n 0, 1), (10, .sipush 700, 3), (13, .putfield 15, 3), (16, .aload_n 0, 1), (17, .bipush 40, 2), (19, .putfield 18, 3), (22, .aload_n 0, 1), (23, .bipush 17, 2), (25, .newarray .int, 2), (27, .putfield 21, 3), (30, .aload_n 0, 1), (31, .bipush 17, 2), (33, .newarray .int, 2), (35, .putfield 25, 3), (38, .aload_n 0, 1), (39, .bipush 17, 2), (41, .newarray .int, 2), (43, .putfield 28, 3), (46, .aload_n 0, 1)] := by unfold decs; decide +kernel
theorem dX5_init_0 : decode cX5_init 0 = .ok (.aload_n 0, 1) := decs_at DX5_init_0 0 rfl
theorem dX5_init_1 : decode cX5_init 1 = .ok (.invokespecial 3, 3) := decs_at DX5_init_0 1 rfl
theorem dX5_init_4 : decode cX5_init 4 = .ok (.aload_n 0, 1) := decs_at DX5_init_0 2 rfl
theorem dX5_init_5 : decode cX5_init 5 = .ok (.iconst 0, 1) := decs_at DX5_init_0 3 rfl
theorem dX5_init_6 : decode cX5_init 6 = .ok (.putfield 9, 3) := decs_at DX5_init_0 4 rfl
theorem dX5_init_9 : decode cX5_init 9 = .ok (.aload_n 0, 1) := decs_at DX5_init_0 5 rfl
theorem dX5_init_10 : decode cX5_init 10 = .ok (.sipush 700, 3) := decs_at DX5_init_0 6 rfl
theorem dX5_init_13 : decode cX5_init 13 = .ok (.putfield 15, 3) := decs_at DX5_init_0 7 rfl
theorem dX5_init_16 : decode cX5_init 16 = .ok (.aload_n 0, 1) := decs_at DX5_init_0 8 rfl
theorem dX5_init_17 : decode cX5_init 17 = .ok (.bipush 40, 2) := decs_at DX5_init_0 9 rfl
theorem dX5_init_19 : decode cX5_init 19 = .ok (.putfield 18, 3) := decs_at DX5_init_0 10 rfl
theorem dX5_init_22 : decode cX5_init 22 = .ok (.aload_n 0, 1) := decs_at DX5_init_0 11 rfl
theorem dX5_init_23 : decode cX5_init 23 = .ok (.bipush 17, 2) := decs_at DX5_init_0 12 rfl
theorem dX5_init_25 : decode cX5_init 25 = .ok (.newarray .int, 2) := decs_at DX5_init_0 13 rfl
theorem dX5_init_27 : decode cX5_init 27 = .ok (.putfield 21, 3) := decs_at DX5_init_0 14 rfl
theorem dX5_init_30 : decode cX5_init 30 = .ok (.aload_n 0, 1) := decs_at DX5_init_0 15 rfl
theorem dX5_init_31 : decode cX5_init 31 = .ok (.bipush 17, 2) := decs_at DX5_init_0 16 rfl
theorem dX5_init_33 : decode cX5_init 33 = .ok (.newarray .int, 2) := decs_at DX5_init_0 17 rfl
theorem dX5_init_35 : decode cX5_init 35 = .ok (.putfield 25, 3) := decs_at DX5_init_0 18 rfl
theorem dX5_init_38 : decode cX5_init 38 = .ok (.aload_n 0, 1) := decs_at DX5_init_0 19 rfl
theorem dX5_init_39 : decode cX5_init 39 = .ok (.bipush 17, 2) := decs_at DX5_init_0 20 rfl
theorem dX5_init_41 : decode cX5_init 41 = .ok (.newarray .int, 2) := decs_at DX5_init_0 21 rfl
theorem dX5_init_43 : decode cX5_init 43 = .ok (.putfield 28, 3) := decs_at DX5_init_0 22 rfl
theorem dX5_init_46 : decode cX5_init 46 = .ok (.aload_n 0, 1) := decs_at DX5_init_0 23 rfl
theorem DX5_init_24 : decs cX5_init [(47, .bipush 17, 2), (49, .newarray .int, 2), (51, .putfield 31, 3), (54, .aload_n 0, 1), (55, .bipush 17, 2), (57, .newarray .int, 2), (59, .putfield 34, 3), (62, .aload_n 0, 1), (63, .bipush 17, 2), (65, .newarray .int, 2), (67, .putfield 37, 3), (70, .aload_n 0, 1), (71, .bipush 17, 2), (73, .newarray .int, 2), (75, .putfield 40, 3), (78, .return_, 1)] := by unfold decs; decide +kernel
theorem dX5_init_47 : decode cX5_init 47 = .ok (.bipush 17, 2) := decs_at DX5_init_24 0 rfl
theorem dX5_init_49 : decode cX5_init 49 = .ok (.newarray .int, 2) := decs_at DX5_init_24 1 rfl
theorem dX5_init_51 : decode cX5_init 51 = .ok (.putfield 31, 3) := decs_at DX5_init_24 2 rfl
theorem dX5_init_54 : decode cX5_init 54 = .ok (.aload_n 0, 1) := decs_at DX5_init_24 3 rfl
theorem dX5_init_55 : decode cX5_init 55 = .ok (.bipush 17, 2) := decs_at DX5_init_24 4 rfl
theorem dX5_init_57 : decode cX5_init 57 = .ok (.newarray .int, 2) := decs_at DX5_init_24 5 rfl
theorem dX5_init_59 : decode cX5_init 59 = .ok (.putfield 34, 3) := decs_at DX5_init_24 6 rfl
theorem dX5_init_62 : decode cX5_init 62 = .ok (.aload_n 0, 1) := decs_at DX5_init_24 7 rfl
theorem dX5_init_63 : decode cX5_init 63 = .ok (.bipush 17, 2) := decs_at DX5_init_24 8 rfl
theorem dX5_init_65 : decode cX5_init 65 = .ok (.newarray .int, 2) := decs_at DX5_init_24 9 rfl
theorem dX5_init_67 : decode cX5_init 67 = .ok (.putfield 37, 3) := decs_at DX5_init_24 10 rfl
theorem dX5_init_70 : decode cX5_init 70 = .ok (.aload_n 0, 1) := decs_at DX5_init_24 11 rfl
theorem dX5_init_71 : decode cX5_init 71 = .ok (.bipush 17, 2) := decs_at DX5_init_24 12 rfl
theorem dX5_init_73 : decode cX5_init 73 = .ok (.newarray .int, 2) := decs_at DX5_init_24 13 rfl
theorem dX5_init_75 : decode cX5_init 75 = .ok (.putfield 40, 3) := decs_at DX5_init_24 14 rfl
theorem dX5_init_78 : decode cX5_init 78 = .ok (.return_, 1) := decs_at DX5_init_24 15 rfl
theorem DX4_init_0 : decs cX4_init [(0, .aload_n 0, 1), (1, .invokespecial 3, 3), (4, .aload_n 0, 1), (5, .iconst 0, 1), (6, .putfield 9, 3), (9, .aload_n 0, 1), (10, .iconst 0, 1), (11, .putfield 15, 3), (14, .aload_n 0, 1), (15, .bipush 20, 2), (17, .newarray .int, 2), (19, .putfield 19, 3), (22, .aload_n 0, 1), (23, .bipush 20, 2), (25, .newarray .int, 2), (27, .putfield 23, 3), (30, .aload_n 0, 1), (31, .bipush 20, 2), (33, .newarray .int, 2), (35, .putfield 26, 3), (38, .return_, 1)] := by unfold decs; decide +kernel
theorem dX4_init_0 : decode cX4_init 0 = .ok (.aload_n 0, 1) := decs_at DX4_init_0 0 rfl
theorem dX4_init_1 : decode cX4_init 1 = .ok (.invokespecial 3, 3) := decs_at DX4_init_0 1 rfl
theorem dX4_init_4 : decode cX4_init 4 = .ok (.aload_n 0, 1) := decs_at DX4_init_0 2 rfl
theorem dX4_init_5 : decode cX4_init 5 = .ok (.iconst 0, 1) := decs_at DX4_init_0 3 rfl
theorem dX4_init_6 : decode cX4_init 6 = .ok (.putfield 9, 3) := decs_at DX4_init_0 4 rfl
theorem dX4_init_9 : decode cX4_init 9 = .ok (.aload_n 0, 1) := decs_at DX4_init_0 5 rfl
theorem dX4_init_10 : decode cX4_init 10 = .ok (.iconst 0, 1) := decs_at DX4_init_0 6 rfl
theorem dX4_init_11 : decode cX4_init 11 = .ok (.putfield 15, 3) := decs_at DX4_init_0 7 rfl
theorem dX4_init_14 : decode cX4_init 14 = .ok (.aload_n 0, 1) := decs_at DX4_init_0 8 rfl
theorem dX4_init_15 : decode cX4_init 15 = .ok (.bipush 20, 2) := decs_at DX4_init_0 9 rfl
theorem dX4_init_17 : decode cX4_init 17 = .ok (.newarray .int, 2) := decs_at DX4_init_0 10 rfl
theorem dX4_init_19 : decode cX4_init 19 = .ok (.putfield 19, 3) := decs_at DX4_init_0 11 rfl
theorem dX4_init_22 : decode cX4_init 22 = .ok (.aload_n 0, 1) := decs_at DX4_init_0 12 rfl
theorem dX4_init_23 : decode cX4_init 23 = .ok (.bipush 20, 2) := decs_at DX4_init_0 13 rfl
theorem dX4_init_25 : decode cX4_init 25 = .ok (.newarray .int, 2) := decs_at DX4_init_0 14 rfl
theorem dX4_init_27 : decode cX4_init 27 = .ok (.putfield 23, 3) := decs_at DX4_init_0 15 rfl
theorem dX4_init_30 : decode cX4_init 30 = .ok (.aload_n 0, 1) := decs_at DX4_init_0 16 rfl
theorem dX4_init_31 : decode cX4_init 31 = .ok (.bipush 20, 2) := decs_at DX4_init_0 17 rfl
theorem dX4_init_33 : decode cX4_init 33 = .ok (.newarray .int, 2) := decs_at DX4_init_0 18 rfl
theorem dX4_init_35 : decode cX4_init 35 = .ok (.putfield 26, 3) := decs_at DX4_init_0 19 rfl
theorem dX4_init_38 : decode cX4_init 38 = .ok (.return_, 1) := decs_at DX4_init_0 20 rfl
theorem DX0_init_0 : decs cX0_init [(0, .aload_n 0, 1), (1, .invokespecial 3, 3), (4, .aload_n 0, 1), (5, .bipush 17, 2), (7, .newarray .int, 2), (9, .putfield 9, 3), (12, .aload_n 0, 1), (13, .bipush 17, 2), (15, .newarray .int, 2), (17, .putfield 15, 3), (20, .aload_n 0, 1), (21, .bipush 17, 2), (23, .newarray .int, 2), (25, .putfield 18, 3), (28, .aload_n 0, 1), (29, .bipush 17, 2), (31, .newarray .int, 2), (33, .putfield 21, 3), (36, .aload_n 0, 1), (37, .iconst 0, 1), (38, .putfield 24, 3), (41, .aload_n 0, 1), (42, .iconst 0, 1), (43, .putfield 28, 3)] := by unfold decs; decide +kernel
theorem dX0_init_0 : decode cX0_init 0 = .ok (.aload_n 0, 1) := decs_at DX0_init_0 0 rfl
theorem dX0_init_1 : decode cX0_init 1 = .ok (.invokespecial 3, 3) := decs_at DX0_init_0 1 rfl
theorem dX0_init_4 : decode cX0_init 4 = .ok (.aload_n 0, 1) := decs_at DX0_init_0 2 rfl
theorem dX0_init_5 : decode cX0_init 5 = .ok (.bipush 17, 2) := decs_at DX0_init_0 3 rfl
theorem dX0_init_7 : decode cX0_init 7 = .ok (.newarray .int, 2) := decs_at DX0_init_0 4 rfl
theorem dX0_init_9 : decode cX0_init 9 = .ok (.putfield 9, 3) := decs_at DX0_init_0 5 rfl
theorem dX0_init_12 : decode cX0_init 12 = .ok (.aload_n 0, 1) := decs_at DX0_init_0 6 rfl
theorem dX0_init_13 : decode cX0_init 13 = .ok (.bipush 17, 2) := decs_at DX0_init_0 7 rfl
theorem dX0_init_15 : decode cX0_init 15 = .ok (.newarray .int, 2) := decs_at DX0_init_0 8 rfl
theorem dX0_init_17 : decode cX0_init 17 = .ok (.putfield 15, 3) := decs_at DX0_init_0 9 rfl
theorem dX0_init_20 : decode cX0_init 20 = .ok (.aload_n 0, 1) := decs_at DX0_init_0 10 rfl
theorem dX0_init_21 : decode cX0_init 21 = .ok (.bipush 17, 2) := decs_at DX0_init_0 11 rfl
theorem dX0_init_23 : decode cX0_init 23 = .ok (.newarray .int, 2) := decs_at DX0_init_0 12 rfl
theorem dX0_init_25 : decode cX0_init 25 = .ok (.putfield 18, 3) := decs_at DX0_init_0 13 rfl
theorem dX0_init_28 : decode cX0_init 28 = .ok (.aload_n 0, 1) := decs_at DX0_init_0 14 rfl
theorem dX0_init_29 : decode cX0_init 29 = .ok (.bipush 17, 2) := decs_at DX0_init_0 15 rfl
theorem dX0_init_31 : decode cX0_init 31 = .ok (.newarray .int, 2) := decs_at DX0_init_0 16 rfl
theorem dX0_init_33 : decode cX0_init 33 = .ok (.putfield 21, 3) := decs_at DX0_init_0 17 rfl
theorem dX0_init_36 : decode cX0_init 36 = .ok (.aload_n 0, 1) := decs_at DX0_init_0 18 rfl
theorem dX0_init_37 : decode cX0_init 37 = .ok (.iconst 0, 1) := decs_at DX0_init_0 19 rfl
theorem dX0_init_38 : decode cX0_init 38 = .ok (.putfield 24, 3) := decs_at DX0_init_0 20 rfl
theorem dX0_init_41 : decode cX0_init 41 = .ok (.aload_n 0, 1) := decs_at DX0_init_0 21 rfl
theorem dX0_init_42 : decode cX0_init 42 = .ok (.iconst 0, 1) := decs_at DX0_init_0 22 rfl
theorem dX0_init_43 : decode cX0_init 43 = .ok (.putfield 28, 3) := decs_at DX0_init_0 23 rfl
theorem DX0_init_24 : decs cX0_init [(46, .aload_n 0, 1), (47, .iconst 0, 1), (48, .putfield 31, 3), (51, .aload_n 0, 1), (52, .iconst (-1), 1), (53, .putfield 35, 3), (56, .aload_n 0, 1), (57, .iconst 0, 1), (58, .putfield 38, 3), (61, .aload_n 0, 1), (62, .iconst 0, 1), (63, .putfield 41, 3), (66, .return_, 1)] := by unfold decs; decide +kernel
theorem dX0_init_46 : decode cX0_init 46 = .ok (.aload_n 0, 1) := decs_at DX0_init_24 0 rfl
theorem dX0_init_47 : decode cX0_init 47 = .ok (.iconst 0, 1) := decs_at DX0_init_24 1 rfl
theorem dX0_init_48 : decode cX0_init 48 = .ok (.putfield 31, 3) := decs_at DX0_init_24 2 rfl
theorem dX0_init_51 : decode cX0_init 51 = .ok (.aload_n 0, 1) := decs_at DX0_init_24 3 rfl
theorem dX0_init_52 : decode cX0_init 52 = .ok (.iconst (-1), 1) := decs_at DX0_init_24 4 rfl
theorem dX0_init_53 : decode cX0_init 53 = .ok (.putfield 35, 3) := decs_at DX0_init_24 5 rfl
theorem dX0_init_56 : decode cX0_init 56 = .ok (.aload_n 0, 1) := decs_at DX0_init_24 6 rfl
theorem dX0_init_57 : decode cX0_init 57 = .ok (.iconst 0, 1) := decs_at DX0_init_24 7 rfl
theorem dX0_init_58 : decode cX0_init 58 = .ok (.putfield 38, 3) := decs_at DX0_init_24 8 rfl
theorem dX0_init_61 : decode cX0_init 61 = .ok (.aload_n 0, 1) := decs_at DX0_init_24 9 rfl
theorem dX0_init_62 : decode cX0_init 62 = .ok (.iconst 0, 1) := decs_at DX0_init_24 10 rfl
theorem dX0_init_63 : decode cX0_init 63 = .ok (.putfield 41, 3) := decs_at DX0_init_24 11 rfl
theorem dX0_init_66 : decode cX0_init 66 = .ok (.return_, 1) := decs_at DX0_init_24 12 rfl
theorem DX6_init_0 : decs cX6_init [(0, .aload_n 0, 1), (1, .invokespecial 3, 3), (4, .aload_n 0, 1), (5, .iconst 0, 1), (6, .putfield 9, 3), (9, .aload_n 0, 1), (10, .iconst 0, 1), (11, .putfield 15, 3), (14, .aload_n 0, 1), (15, .iconst 0, 1), (16, .putfield 18, 3), (19, .aload_n 0, 1), (20, .iconst 0, 1), (21, .putfield 21, 3), (24, .aload_n 0, 1), (25, .iconst 0, 1), (26, .putfield 24, 3), (29, .aload_n 0, 1), (30, .iconst 0, 1), (31, .putfield 27, 3), (34, .aload_n 0, 1), (35, .iconst 0, 1), (36, .putfield 30, 3), (39, .return_, 1)] := by unfold decs; decide +kernel
theorem dX6_init_0 : decode cX6_init 0 = .ok (.aload_n 0, 1) := decs_at DX6_init_0 0 rfl
theorem dX6_init_1 : decode cX6_init 1 = .ok (.invokespecial 3, 3) := decs_at DX6_init_0 1 rfl
theorem dX6_init_4 : decode cX6_init 4 = .ok (.aload_n 0, 1) := decs_at DX6_init_0 2 rfl
theorem dX6_init_5 : decode cX6_init 5 = .ok (.iconst 0, 1) := decs_at DX6_init_0 3 rfl
theorem dX6_init_6 : decode cX6_init 6 = .ok (.putfield 9, 3) := decs_at DX6_init_0 4 rfl
theorem dX6_init_9 : decode cX6_init 9 = .ok (.aload_n 0, 1) := decs_at DX6_init_0 5 rfl
theorem dX6_init_10 : decode cX6_init 10 = .ok (.iconst 0, 1) := decs_at DX6_init_0 6 rfl
theorem dX6_init_11 : decode cX6_init 11 = .ok (.putfield 15, 3) := decs_at DX6_init_0 7 rfl
theorem dX6_init_14 : decode cX6_init 14 = .ok (.aload_n 0, 1) := decs_at DX6_init_0 8 rfl
theorem dX6_init_15 : decode cX6_init 15 = .ok (.iconst 0, 1) := decs_at DX6_init_0 9 rfl
theorem dX6_init_16 : decode cX6_init 16 = .ok (.putfield 18, 3) := decs_at DX6_init_0 10 rfl
theorem dX6_init_19 : decode cX6_init 19 = .ok (.aload_n 0, 1) := decs_at DX6_init_0 11 rfl
theorem dX6_init_20 : decode cX6_init 20 = .ok (.iconst 0, 1) := decs_at DX6_init_0 12 rfl
theorem dX6_init_21 : decode cX6_init 21 = .ok (.putfield 21, 3) := decs_at DX6_init_0 13 rfl
theorem dX6_init_24 : decode cX6_init 24 = .ok (.aload_n 0, 1) := decs_at DX6_init_0 14 rfl
theorem dX6_init_25 : decode cX6_init 25 = .ok (.iconst 0, 1) := decs_at DX6_init_0 15 rfl
theorem dX6_init_26 : decode cX6_init 26 = .ok (.putfield 24, 3) := decs_at DX6_init_0 16 rfl
theorem dX6_init_29 : decode cX6_init 29 = .ok (.aload_n 0, 1) := decs_at DX6_init_0 17 rfl
theorem dX6_init_30 : decode cX6_init 30 = .ok (.iconst 0, 1) := decs_at DX6_init_0 18 rfl
theorem dX6_init_31 : decode cX6_init 31 = .ok (.putfield 27, 3) := decs_at DX6_init_0 19 rfl
theorem dX6_init_34 : decode cX6_init 34 = .ok (.aload_n 0, 1) := decs_at DX6_init_0 20 rfl
theorem dX6_init_35 : decode cX6_init 35 = .ok (.iconst 0, 1) := decs_at DX6_init_0 21 rfl
theorem dX6_init_36 : decode cX6_init 36 = .ok (.putfield 30, 3) := decs_at DX6_init_0 22 rfl
theorem dX6_init_39 : decode cX6_init 39 = .ok (.return_, 1) := decs_at DX6_init_0 23 rfl
theorem DX1_init_0 : decs cX1_init [(0, .aload_n 0, 1), (1, .invokespecial 3, 3), (4, .aload_n 0, 1), (5, .iconst 0, 1), (6, .putfield 9, 3), (9, .aload_n 0, 1), (10, .bipush 40, 2), (12, .newarray .long, 2), (14, .putfield 15, 3), (17, .aload_n 0, 1), (18, .bipush 40, 2), (20, .newarray .long, 2), (22, .putfield 19, 3), (25, .aload_n 0, 1), (26, .bipush 40, 2), (28, .newarray .boolean, 2), (30, .putfield 22, 3), (33, .aload_n 0, 1), (34, .bipush 40, 2), (36, .newarray .int, 2), (38, .putfield 26, 3), (41, .aload_n 0, 1), (42, .iconst 0, 1), (43, .putfield 30, 3)] := by unfold decs; decide +kernel
theorem dX1_init_0 : decode cX1_init 0 = .ok (.aload_n 0, 1) := decs_at DX1_init_0 0 rfl
theorem dX1_init_1 : decode cX1_init 1 = .ok (.invokespecial 3, 3) := decs_at DX1_init_0 1 rfl
theorem dX1_init_4 : decode cX1_init 4 = .ok (.aload_n 0, 1) := decs_at DX1_init_0 2 rfl
theorem dX1_init_5 : decode cX1_init 5 = .ok (.iconst 0, 1) := decs_at DX1_init_0 3 rfl
theorem dX1_init_6 : decode cX1_init 6 = .ok (.putfield 9, 3) := decs_at DX1_init_0 4 rfl
theorem dX1_init_9 : decode cX1_init 9 = .ok (.aload_n 0, 1) := decs_at DX1_init_0 5 rfl
theorem dX1_init_10 : decode cX1_init 10 = .ok (.bipush 40, 2) := decs_at DX1_init_0 6 rfl
theorem dX1_init_12 : decode cX1_init 12 = .ok (.newarray .long, 2) := decs_at DX1_init_0 7 rfl
theorem dX1_init_14 : decode cX1_init 14 = .ok (.putfield 15, 3) := decs_at DX1_init_0 8 rfl
theorem dX1_init_17 : decode cX1_init 17 = .ok (.aload_n 0, 1) := decs_at DX1_init_0 9 rfl
theorem dX1_init_18 : decode cX1_init 18 = .ok (.bipush 40, 2) := decs_at DX1_init_0 10 rfl
theorem dX1_init_20 : decode cX1_init 20 = .ok (.newarray .long, 2) := decs_at DX1_init_0 11 rfl
theorem dX1_init_22 : decode cX1_init 22 = .ok (.putfield 19, 3) := decs_at DX1_init_0 12 rfl
theorem dX1_init_25 : decode cX1_init 25 = .ok (.aload_n 0, 1) := decs_at DX1_init_0 13 rfl
theorem dX1_init_26 : decode cX1_init 26 = .ok (.bipush 40, 2) := decs_at DX1_init_0 14 rfl
theorem dX1_init_28 : decode cX1_init 28 = .ok (.newarray .boolean, 2) := decs_at DX1_init_0 15 rfl
theorem dX1_init_30 : decode cX1_init 30 = .ok (.putfield 22, 3) := decs_at DX1_init_0 16 rfl
theorem dX1_init_33 : decode cX1_init 33 = .ok (.aload_n 0, 1) := decs_at DX1_init_0 17 rfl
theorem dX1_init_34 : decode cX1_init 34 = .ok (.bipush 40, 2) := decs_at DX1_init_0 18 rfl
theorem dX1_init_36 : decode cX1_init 36 = .ok (.newarray .int, 2) := decs_at DX1_init_0 19 rfl
theorem dX1_init_38 : decode cX1_init 38 = .ok (.putfield 26, 3) := decs_at DX1_init_0 20 rfl
theorem dX1_init_41 : decode cX1_init 41 = .ok (.aload_n 0, 1) := decs_at DX1_init_0 21 rfl
theorem dX1_init_42 : decode cX1_init 42 = .ok (.iconst 0, 1) := decs_at DX1_init_0 22 rfl
theorem dX1_init_43 : decode cX1_init 43 = .ok (.putfield 30, 3) := decs_at DX1_init_0 23 rfl
theorem DX1_init_24 : decs cX1_init [(46, .return_, 1)] := by unfold decs; decide +kernel
theorem dX1_init_46 : decode cX1_init 46 = .ok (.return_, 1) := decs_at DX1_init_24 0 rfl
theorem DX8_init_0 : decs cX8_init [(0, .aload_n 0, 1), (1, .invokespecial 3, 3), (4, .aload_n 0, 1), (5, .iconst 0, 1), (6, .putfield 9, 3), (9, .aload_n 0, 1), (10, .iconst 0, 1), (11, .putfield 15, 3), (14, .aload_n 0, 1), (15, .iconst 0, 1), (16, .putfield 18, 3), (19, .aload_n 0, 1), (20, .iconst 0, 1), (21, .putfield 21, 3), (24, .aload_n 0, 1), (25, .iconst 0, 1), (26, .putfield 24, 3), (29, .aload_n 0, 1), (30, .iconst 0, 1), (31, .putfield 27, 3), (34, .aload_n 0, 1), (35, .iconst 0, 1), (36, .putfield 30, 3), (39, .aload_n 0, 1)] := by unfold decs; decide +kernel
theorem dX8_init_0 : decode cX8_init 0 = .ok (.aload_n 0, 1) := decs_at DX8_init_0 0 rfl
theorem dX8_init_1 : decode cX8_init 1 = .ok (.invokespecial 3, 3) := decs_at DX8_init_0 1 rfl
theorem dX8_init_4 : decode cX8_init 4 = .ok (.aload_n 0, 1) := decs_at DX8_init_0 2 rfl
theorem dX8_init_5 : decode cX8_init 5 = .ok (.iconst 0, 1) := decs_at DX8_init_0 3 rfl
theorem dX8_init_6 : decode cX8_init 6 = .ok (.putfield 9, 3) := decs_at DX8_init_0 4 rfl
theorem dX8_init_9 : decode cX8_init 9 = .ok (.aload_n 0, 1) := decs_at DX8_init_0 5 rfl
theorem dX8_init_10 : decode cX8_init 10 = .ok (.iconst 0, 1) := decs_at DX8_init_0 6 rfl
theorem dX8_init_11 : decode cX8_init 11 = .ok (.putfield 15, 3) := decs_at DX8_init_0 7 rfl
theorem dX8_init_14 : decode cX8_init 14 = .ok (.aload_n 0, 1) := decs_at DX8_init_0 8 rfl
theorem dX8_init_15 : decode cX8_init 15 = .ok (.iconst 0, 1) := decs_at DX8_init_0 9 rfl
theorem dX8_init_16 : decode cX8_init 16 = .ok (.putfield 18, 3) := decs_at DX8_init_0 10 rfl
theorem dX8_init_19 : decode cX8_init 19 = .ok (.aload_n 0, 1) := decs_at DX8_init_0 11 rfl
theorem dX8_init_20 : decode cX8_init 20 = .ok (.iconst 0, 1) := decs_at DX8_init_0 12 rfl
theorem dX8_init_21 : decode cX8_init 21 = .ok (.putfield 21, 3) := decs_at DX8_init_0 13 rfl
theorem dX8_init_24 : decode cX8_init 24 = .ok (.aload_n 0, 1) := decs_at DX8_init_0 14 rfl
theorem dX8_init_25 : decode cX8_init 25 = .ok (.iconst 0, 1) := decs_at DX8_init_0 15 rfl
theorem dX8_init_26 : decode cX8_init 26 = .ok (.putfield 24, 3) := decs_at DX8_init_0 16 rfl
theorem dX8_init_29 : decode cX8_init 29 = .ok (.aload_n 0, 1) := decs_at DX8_init_0 17 rfl
theorem dX8_init_30 : decode cX8_init 30 = .ok (.iconst 0, 1) := decs_at DX8_init_0 18 rfl
theorem dX8_init_31 : decode cX8_init 31 = .ok (.putfield 27, 3) := decs_at DX8_init_0 19 rfl
theorem dX8_init_34 : decode cX8_init 34 = .ok (.aload_n 0, 1) := decs_at DX8_init_0 20 rfl
theorem dX8_init_35 : decode cX8_init 35 = .ok (.iconst 0, 1) := decs_at DX8_init_0 21 rfl
theorem dX8_init_36 : decode cX8_init 36 = .ok (.putfield 30, 3) := decs_at DX8_init_0 22 rfl
theorem dX8_init_39 : decode cX8_init 39 = .ok (.aload_n 0, 1) := decs_at DX8_init_0 23 rfl
theorem DX8_init_24 : decs cX8_init [(40, .aload_n 1, 1), (41, .putfield 33, 3), (44, .return_, 1)] := by unfold decs; decide +kernel
theorem dX8_init_40 : decode cX8_init 40 = .ok (.aload_n 1, 1) := decs_at DX8_init_24 0 rfl
theorem dX8_init_41 : decode cX8_init 41 = .ok (.putfield 33, 3) := decs_at DX8_init_24 1 rfl
theorem dX8_init_44 : decode cX8_init 44 = .ok (.return_, 1) := decs_at DX8_init_24 2 rfl
theorem DX9_init_0 : decs cX9_init [(0, .aload_n 0, 1), (1, .invokespecial 3, 3), (4, .aload_n 0, 1), (5, .new 9, 3), (8, .dup, 1), (9, .invokespecial 11, 3), (12, .putfield 12, 3), (15, .aload_n 0, 1), (16, .iconst (-1), 1), (17, .putfield 18, 3), (20, .aload_n 0, 1), (21, .iconst (-1), 1), (22, .putfield 22, 3), (25, .aload_n 0, 1), (26, .aload_n 1, 1), (27, .putfield 25, 3), (30, .return_, 1)] := by unfold decs; decide +kernel
theorem dX9_init_0 : decode cX9_init 0 = .ok (.aload_n 0, 1) := decs_at DX9_init_0 0 rfl
theorem dX9_init_1 : decode cX9_init 1 = .ok (.invokespecial 3, 3) := decs_at DX9_init_0 1 rfl
theorem dX9_init_4 : decode cX9_init 4 = .ok (.aload_n 0, 1) := decs_at DX9_init_0 2 rfl
theorem dX9_init_5 : decode cX9_init 5 = .ok (.new 9, 3) := decs_at DX9_init_0 3 rfl
theorem dX9_init_8 : decode cX9_init 8 = .ok (.dup, 1) := decs_at DX9_init_0 4 rfl
theorem dX9_init_9 : decode cX9_init 9 = .ok (.invokespecial 11, 3) := decs_at DX9_init_0 5 rfl
theorem dX9_init_12 : decode cX9_init 12 = .ok (.putfield 12, 3) := decs_at DX9_init_0 6 rfl
theorem dX9_init_15 : decode cX9_init 15 = .ok (.aload_n 0, 1) := decs_at DX9_init_0 7 rfl
theorem dX9_init_16 : decode cX9_init 16 = .ok (.iconst (-1), 1) := decs_at DX9_init_0 8 rfl
theorem dX9_init_17 : decode cX9_init 17 = .ok (.putfield 18, 3) := decs_at DX9_init_0 9 rfl
theorem dX9_init_20 : decode cX9_init 20 = .ok (.aload_n 0, 1) := decs_at DX9_init_0 10 rfl
theorem dX9_init_21 : decode cX9_init 21 = .ok (.iconst (-1), 1) := decs_at DX9_init_0 11 rfl
theorem dX9_init_22 : decode cX9_init 22 = .ok (.putfield 22, 3) := decs_at DX9_init_0 12 rfl
theorem dX9_init_25 : decode cX9_init 25 = .ok (.aload_n 0, 1) := decs_at DX9_init_0 13 rfl
theorem dX9_init_26 : decode cX9_init 26 = .ok (.aload_n 1, 1) := decs_at DX9_init_0 14 rfl
theorem dX9_init_27 : decode cX9_init 27 = .ok (.putfield 25, 3) := decs_at DX9_init_0 15 rfl
theorem dX9_init_30 : decode cX9_init 30 = .ok (.return_, 1) := decs_at DX9_init_0 16 rfl
theorem DX3_init_0 : decs cX3_init [(0, .aload_n 0, 1), (1, .invokespecial 3, 3), (4, .aload_n 0, 1), (5, .new 9, 3), (8, .dup, 1), (9, .invokespecial 11, 3), (12, .putfield 12, 3), (15, .aload_n 0, 1), (16, .aload_n 1, 1), (17, .putfield 18, 3), (20, .return_, 1)] := by unfold decs; decide +kernel
theorem dX3_init_0 : decode cX3_init 0 = .ok (.aload_n 0, 1) := decs_at DX3_init_0 0 rfl
theorem dX3_init_1 : decode cX3_init 1 = .ok (.invokespecial 3, 3) := decs_at DX3_init_0 1 rfl
theorem dX3_init_4 : decode cX3_init 4 = .ok (.aload_n 0, 1) := decs_at DX3_init_0 2 rfl
theorem dX3_init_5 : decode cX3_init 5 = .ok (.new 9, 3) := decs_at DX3_init_0 3 rfl
theorem dX3_init_8 : decode cX3_init 8 = .ok (.dup, 1) := decs_at DX3_init_0 4 rfl
theorem dX3_init_9 : decode cX3_init 9 = .ok (.invokespecial 11, 3) := decs_at DX3_init_0 5 rfl
theorem dX3_init_12 : decode cX3_init 12 = .ok (.putfield 12, 3) := decs_at DX3_init_0 6 rfl
theorem dX3_init_15 : decode cX3_init 15 = .ok (.aload_n 0, 1) := decs_at DX3_init_0 7 rfl
theorem dX3_init_16 : decode cX3_init 16 = .ok (.aload_n 1, 1) := decs_at DX3_init_0 8 rfl
theorem dX3_init_17 : decode cX3_init 17 = .ok (.putfield 18, 3) := decs_at DX3_init_0 9 rfl
theorem dX3_init_20 : decode cX3_init 20 = .ok (.return_, 1) := decs_at DX3_init_0 10 rfl
theorem DX10_init_0 : decs cX10_init [(0, .aload_n 0, 1), (1, .invokespecial 3, 3), (4, .aload_n 0, 1), (5, .new 9, 3), (8, .dup, 1), (9, .invokespecial 11, 3), (12, .putfield 12, 3), (15, .aload_n 0, 1), (16, .new 18, 3), (19, .dup, 1), (20, .invokespecial 20, 3), (23, .putfield 21, 3), (26, .aload_n 0, 1), (27, .new 18, 3), (30, .dup, 1), (31, .invokespecial 20, 3), (34, .putfield 25, 3), (37, .aload_n 0, 1), (38, .new 28, 3), (41, .dup, 1), (42, .invokespecial 30, 3), (45, .putfield 31, 3), (48, .aload_n 0, 1), (49, .new 28, 3)] := by unfold decs; decide +kernel
theorem dX10_init_0 : decode cX10_init 0 = .ok (.aload_n 0, 1) := decs_at DX10_init_0 0 rfl
theorem dX10_init_1 : decode cX10_init 1 = .ok (.invokespecial 3, 3) := decs_at DX10_init_0 1 rfl
theorem dX10_init_4 : decode cX10_init 4 = .ok (.aload_n 0, 1) := decs_at DX10_init_0 2 rfl
theorem dX10_init_5 : decode cX10_init 5 = .ok (.new 9, 3) := decs_at DX10_init_0 3 rfl
theorem dX10_init_8 : decode cX10_init 8 = .ok (.dup, 1) := decs_at DX10_init_0 4 rfl
theorem dX10_init_9 : decode cX10_init 9 = .ok (.invokespecial 11, 3) := decs_at DX10_init_0 5 rfl
theorem dX10_init_12 : decode cX10_init 12 = .ok (.putfield 12, 3) := decs_at DX10_init_0 6 rfl
theorem dX10_init_15 : decode cX10_init 15 = .ok (.aload_n 0, 1) := decs_at DX10_init_0 7 rfl
theorem dX10_init_16 : decode cX10_init 16 = .ok (.new 18, 3) := decs_at DX10_init_0 8 rfl
theorem dX10_init_19 : decode cX10_init 19 = .ok (.dup, 1) := decs_at DX10_init_0 9 rfl
theorem dX10_init_20 : decode cX10_init 20 = .ok (.invokespecial 20, 3) := decs_at DX10_init_0 10 rfl
theorem dX10_init_23 : decode cX10_init 23 = .ok (.putfield 21, 3) := decs_at DX10_init_0 11 rfl
theorem dX10_init_26 : decode cX10_init 26 = .ok (.aload_n 0, 1) := decs_at DX10_init_0 12 rfl
theorem dX10_init_27 : decode cX10_init 27 = .ok (.new 18, 3) := decs_at DX10_init_0 13 rfl
theorem dX10_init_30 : decode cX10_init 30 = .ok (.dup, 1) := decs_at DX10_init_0 14 rfl
theorem dX10_init_31 : decode cX10_init 31 = .ok (.invokespecial 20, 3) := decs_at DX10_init_0 15 rfl
theorem dX10_init_34 : decode cX10_init 34 = .ok (.putfield 25, 3) := decs_at DX10_init_0 16 rfl
theorem dX10_init_37 : decode cX10_init 37 = .ok (.aload_n 0, 1) := decs_at DX10_init_0 17 rfl
theorem dX10_init_38 : decode cX10_init 38 = .ok (.new 28, 3) := decs_at DX10_init_0 18 rfl
theorem dX10_init_41 : decode cX10_init 41 = .ok (.dup, 1) := decs_at DX10_init_0 19 rfl
theorem dX10_init_42 : decode cX10_init 42 = .ok (.invokespecial 30, 3) := decs_at DX10_init_0 20 rfl
theorem dX10_init_45 : decode cX10_init 45 = .ok (.putfield 31, 3) := decs_at DX10_init_0 21 rfl
theorem dX10_init_48 : decode cX10_init 48 = .ok (.aload_n 0, 1) := decs_at DX10_init_0 22 rfl
theorem dX10_init_49 : decode cX10_init 49 = .ok (.new 28, 3) := decs_at DX10_init_0 23 rfl
theorem DX10_init_24 : decs cX10_init [(52, .dup, 1), (53, .invokespecial 30, 3), (56, .putfield 35, 3), (59, .aload_n 0, 1), (60, .bipush 6, 2), (62, .newarray .int, 2), (64, .putfield 38, 3), (67, .aload_n 0, 1), (68, .bipush 6, 2), (70, .newarray .int, 2), (72, .putfield 42, 3), (75, .aload_n 0, 1), (76, .iconst 0, 1), (77, .putfield 45, 3), (80, .aload_n 0, 1), (81, .bipush 10, 2), (83, .newarray .int, 2), (85, .putfield 49, 3), (88, .aload_n 0, 1), (89, .iconst 0, 1), (90, .putfield 52, 3), (93, .aload_n 0, 1), (94, .iconst 0, 1), (95, .putfield 55, 3)] := by unfold decs; decide +kernel
theorem dX10_init_52 : decode cX10_init 52 = .ok (.dup, 1) := decs_at DX10_init_24 0 rfl
theorem dX10_init_53 : decode cX10_init 53 = .ok (.invokespecial 30, 3) := decs_at DX10_init_24 1 rfl
theorem dX10_init_56 : decode cX10_init 56 = .ok (.putfield 35, 3) := decs_at DX10_init_24 2 rfl
theorem dX10_init_59 : decode cX10_init 59 = .ok (.aload_n 0, 1) := decs_at DX10_init_24 3 rfl
theorem dX10_init_60 : decode cX10_init 60 = .ok (.bipush 6, 2) := decs_at DX10_init_24 4 rfl
theorem dX10_init_62 : decode cX10_init 62 = .ok (.newarray .int, 2) := decs_at DX10_init_24 5 rfl
theorem dX10_init_64 : decode cX10_init 64 = .ok (.putfield 38, 3) := decs_at DX10_init_24 6 rfl
theorem dX10_init_67 : decode cX10_init 67 = .ok (.aload_n 0, 1) := decs_at DX10_init_24 7 rfl
theorem dX10_init_68 : decode cX10_init 68 = .ok (.bipush 6, 2) := decs_at DX10_init_24 8 rfl
theorem dX10_init_70 : decode cX10_init 70 = .ok (.newarray .int, 2) := decs_at DX10_init_24 9 rfl
theorem dX10_init_72 : decode cX10_init 72 = .ok (.putfield 42, 3) := decs_at DX10_init_24 10 rfl
theorem dX10_init_75 : decode cX10_init 75 = .ok (.aload_n 0, 1) := decs_at DX10_init_24 11 rfl
theorem dX10_init_76 : decode cX10_init 76 = .ok (.iconst 0, 1) := decs_at DX10_init_24 12 rfl
theorem dX10_init_77 : decode cX10_init 77 = .ok (.putfield 45, 3) := decs_at DX10_init_24 13 rfl
theorem dX10_init_80 : decode cX10_init 80 = .ok (.aload_n 0, 1) := decs_at DX10_init_24 14 rfl
theorem dX10_init_81 : decode cX10_init 81 = .ok (.bipush 10, 2) := decs_at DX10_init_24 15 rfl
theorem dX10_init_83 : decode cX10_init 83 = .ok (.newarray .int, 2) := decs_at DX10_init_24 16 rfl
theorem dX10_init_85 : decode cX10_init 85 = .ok (.putfield 49, 3) := decs_at DX10_init_24 17 rfl
theorem dX10_init_88 : decode cX10_init 88 = .ok (.aload_n 0, 1) := decs_at DX10_init_24 18 rfl
theorem dX10_init_89 : decode cX10_init 89 = .ok (.iconst 0, 1) := decs_at DX10_init_24 19 rfl
theorem dX10_init_90 : decode cX10_init 90 = .ok (.putfield 52, 3) := decs_at DX10_init_24 20 rfl
theorem dX10_init_93 : decode cX10_init 93 = .ok (.aload_n 0, 1) := decs_at DX10_init_24 21 rfl
theorem dX10_init_94 : decode cX10_init 94 = .ok (.iconst 0, 1) := decs_at DX10_init_24 22 rfl
theorem dX10_init_95 : decode cX10_init 95 = .ok (.putfield 55, 3) := decs_at DX10_init_24 23 rfl
theorem DX10_init_48 : decs cX10_init [(98, .aload_n 0, 1), (99, .iconst 0, 1), (100, .putfield 58, 3), (103, .aload_n 0, 1), (104, .aload_n 1, 1), (105, .putfield 61, 3), (108, .aload_n 0, 1), (109, .aload_n 2, 1), (110, .putfield 64, 3), (113, .return_, 1)] := by unfold decs; decide +kernel
theorem dX10_init_98 : decode cX10_init 98 = .ok (.aload_n 0, 1) := decs_at DX10_init_48 0 rfl
theorem dX10_init_99 : decode cX10_init 99 = .ok (.iconst 0, 1) := decs_at DX10_init_48 1 rfl
theorem dX10_init_100 : decode cX10_init 100 = .ok (.putfield 58, 3) := decs_at DX10_init_48 2 rfl
theorem dX10_init_103 : decode cX10_init 103 = .ok (.aload_n 0, 1) := decs_at DX10_init_48 3 rfl
theorem dX10_init_104 : decode cX10_init 104 = .ok (.aload_n 1, 1) := decs_at DX10_init_48 4 rfl
theorem dX10_init_105 : decode cX10_init 105 = .ok (.putfield 61, 3) := decs_at DX10_init_48 5 rfl
theorem dX10_init_108 : decode cX10_init 108 = .ok (.aload_n 0, 1) := decs_at DX10_init_48 6 rfl
theorem dX10_init_109 : decode cX10_init 109 = .ok (.aload_n 2, 1) := decs_at DX10_init_48 7 rfl
theorem dX10_init_110 : decode cX10_init 110 = .ok (.putfield 64, 3) := decs_at DX10_init_48 8 rfl
theorem dX10_init_113 : decode cX10_init 113 = .ok (.return_, 1) := decs_at DX10_init_48 9 rfl
theorem DX2_init_0 : decs cX2_init [(0, .aload_n 0, 1), (1, .invokespecial 5, 3), (4, .aload_n 0, 1), (5, .new 11, 3), (8, .dup, 1), (9, .invokespecial 13, 3), (12, .putfield 14, 3), (15, .aload_n 0, 1), (16, .new 18, 3), (19, .dup, 1), (20, .invokespecial 20, 3), (23, .putfield 21, 3), (26, .aload_n 0, 1), (27, .bipush 8, 2), (29, .newarray .int, 2), (31, .putfield 25, 3), (34, .aload_n 0, 1), (35, .bipush 8, 2), (37, .newarray .int, 2), (39, .putfield 29, 3), (42, .aload_n 0, 1), (43, .bipush 8, 2), (45, .newarray .int, 2), (47, .putfield 32, 3)] := by unfold decs; decide +kernel
theorem dX2_init_0 : decode cX2_init 0 = .ok (.aload_n 0, 1) := decs_at DX2_init_0 0 rfl
theorem dX2_init_1 : decode cX2_init 1 = .ok (.invokespecial 5, 3) := decs_at DX2_init_0 1 rfl
theorem dX2_init_4 : decode cX2_init 4 = .ok (.aload_n 0, 1) := decs_at DX2_init_0 2 rfl
theorem dX2_init_5 : decode cX2_init 5 = .ok (.new 11, 3) := decs_at DX2_init_0 3 rfl
theorem dX2_init_8 : decode cX2_init 8 = .ok (.dup, 1) := decs_at DX2_init_0 4 rfl
theorem dX2_init_9 : decode cX2_init 9 = .ok (.invokespecial 13, 3) := decs_at DX2_init_0 5 rfl
theorem dX2_init_12 : decode cX2_init 12 = .ok (.putfield 14, 3) := decs_at DX2_init_0 6 rfl
theorem dX2_init_15 : decode cX2_init 15 = .ok (.aload_n 0, 1) := decs_at DX2_init_0 7 rfl
theorem dX2_init_16 : decode cX2_init 16 = .ok (.new 18, 3) := decs_at DX2_init_0 8 rfl
theorem dX2_init_19 : decode cX2_init 19 = .ok (.dup, 1) := decs_at DX2_init_0 9 rfl
theorem dX2_init_20 : decode cX2_init 20 = .ok (.invokespecial 20, 3) := decs_at DX2_init_0 10 rfl
theorem dX2_init_23 : decode cX2_init 23 = .ok (.putfield 21, 3) := decs_at DX2_init_0 11 rfl
theorem dX2_init_26 : decode cX2_init 26 = .ok (.aload_n 0, 1) := decs_at DX2_init_0 12 rfl
theorem dX2_init_27 : decode cX2_init 27 = .ok (.bipush 8, 2) := decs_at DX2_init_0 13 rfl
theorem dX2_init_29 : decode cX2_init 29 = .ok (.newarray .int, 2) := decs_at DX2_init_0 14 rfl
theorem dX2_init_31 : decode cX2_init 31 = .ok (.putfield 25, 3) := decs_at DX2_init_0 15 rfl
theorem dX2_init_34 : decode cX2_init 34 = .ok (.aload_n 0, 1) := decs_at DX2_init_0 16 rfl
theorem dX2_init_35 : decode cX2_init 35 = .ok (.bipush 8, 2) := decs_at DX2_init_0 17 rfl
theorem dX2_init_37 : decode cX2_init 37 = .ok (.newarray .int, 2) := decs_at DX2_init_0 18 rfl
theorem dX2_init_39 : decode cX2_init 39 = .ok (.putfield 29, 3) := decs_at DX2_init_0 19 rfl
theorem dX2_init_42 : decode cX2_init 42 = .ok (.aload_n 0, 1) := decs_at DX2_init_0 20 rfl
theorem dX2_init_43 : decode cX2_init 43 = .ok (.bipush 8, 2) := decs_at DX2_init_0 21 rfl
theorem dX2_init_45 : decode cX2_init 45 = .ok (.newarray .int, 2) := decs_at DX2_init_0 22 rfl
theorem dX2_init_47 : decode cX2_init 47 = .ok (.putfield 32, 3) := decs_at DX2_init_0 23 rfl
theorem DX2_init_24 : decs cX2_init [(50, .aload_n 0, 1), (51, .iconst 0, 1), (52, .putfield 35, 3), (55, .aload_n 0, 1), (56, .iconst 0, 1), (57, .putfield 39, 3), (60, .aload_n 0, 1), (61, .bipush 113, 2), (63, .newarray .int, 2), (65, .putfield 42, 3), (68, .aload_n 0, 1), (69, .iconst 0, 1), (70, .putfield 45, 3), (73, .aload_n 0, 1), (74, .iconst 0, 1), (75, .putfield 48, 3), (78, .aload_n 0, 1), (79, .bipush 113, 2), (81, .newarray .int, 2), (83, .putfield 51, 3), (86, .aload_n 0, 1), (87, .bipush 113, 2), (89, .newarray .int, 2), (91, .putfield 54, 3)] := by unfold decs; decide +kernel
theorem dX2_init_50 : decode cX2_init 50 = .ok (.aload_n 0, 1) := decs_at DX2_init_24 0 rfl
theorem dX2_init_51 : decode cX2_init 51 = .ok (.iconst 0, 1) := decs_at DX2_init_24 1 rfl
theorem dX2_init_52 : decode cX2_init 52 = .ok (.putfield 35, 3) := decs_at DX2_init_24 2 rfl
theorem dX2_init_55 : decode cX2_init 55 = .ok (.aload_n 0, 1) := decs_at DX2_init_24 3 rfl
theorem dX2_init_56 : decode cX2_init 56 = .ok (.iconst 0, 1) := decs_at DX2_init_24 4 rfl
theorem dX2_init_57 : decode cX2_init 57 = .ok (.putfield 39, 3) := decs_at DX2_init_24 5 rfl
theorem dX2_init_60 : decode cX2_init 60 = .ok (.aload_n 0, 1) := decs_at DX2_init_24 6 rfl
theorem dX2_init_61 : decode cX2_init 61 = .ok (.bipush 113, 2) := decs_at DX2_init_24 7 rfl
theorem dX2_init_63 : decode cX2_init 63 = .ok (.newarray .int, 2) := decs_at DX2_init_24 8 rfl
theorem dX2_init_65 : decode cX2_init 65 = .ok (.putfield 42, 3) := decs_at DX2_init_24 9 rfl
theorem dX2_init_68 : decode cX2_init 68 = .ok (.aload_n 0, 1) := decs_at DX2_init_24 10 rfl
theorem dX2_init_69 : decode cX2_init 69 = .ok (.iconst 0, 1) := decs_at DX2_init_24 11 rfl
theorem dX2_init_70 : decode cX2_init 70 = .ok (.putfield 45, 3) := decs_at DX2_init_24 12 rfl
theorem dX2_init_73 : decode cX2_init 73 = .ok (.aload_n 0, 1) := decs_at DX2_init_24 13 rfl
theorem dX2_init_74 : decode cX2_init 74 = .ok (.iconst 0, 1) := decs_at DX2_init_24 14 rfl
theorem dX2_init_75 : decode cX2_init 75 = .ok (.putfield 48, 3) := decs_at DX2_init_24 15 rfl
theorem dX2_init_78 : decode cX2_init 78 = .ok (.aload_n 0, 1) := decs_at DX2_init_24 16 rfl
theorem dX2_init_79 : decode cX2_init 79 = .ok (.bipush 113, 2) := decs_at DX2_init_24 17 rfl
theorem dX2_init_81 : decode cX2_init 81 = .ok (.newarray .int, 2) := decs_at DX2_init_24 18 rfl
theorem dX2_init_83 : decode cX2_init 83 = .ok (.putfield 51, 3) := decs_at DX2_init_24 19 rfl
theorem dX2_init_86 : decode cX2_init 86 = .ok (.aload_n 0, 1) := decs_at DX2_init_24 20 rfl
theorem dX2_init_87 : decode cX2_init 87 = .ok (.bipush 113, 2) := decs_at DX2_init_24 21 rfl
theorem dX2_init_89 : decode cX2_init 89 = .ok (.newarray .int, 2) := decs_at DX2_init_24 22 rfl
theorem dX2_init_91 : decode cX2_init 91 = .ok (.putfield 54, 3) := decs_at DX2_init_24 23 rfl
theorem DX2_init_48 : decs cX2_init [(94, .aload_n 0, 1), (95, .iconst 0, 1), (96, .putfield 57, 3), (99, .aload_n 0, 1), (100, .iconst 0, 1), (101, .putfield 60, 3), (104, .aload_n 0, 1), (105, .iconst 0, 1), (106, .putfield 64, 3), (109, .aload_n 0, 1), (110, .iconst 0, 1), (111, .putfield 67, 3), (114, .aload_n 0, 1), (115, .aload_n 1, 1), (116, .putfield 70, 3), (119, .aload_n 0, 1), (120, .aload_n 2, 1), (121, .putfield 73, 3), (124, .return_, 1)] := by unfold decs; decide +kernel
theorem dX2_init_94 : decode cX2_init 94 = .ok (.aload_n 0, 1) := decs_at DX2_init_48 0 rfl
theorem dX2_init_95 : decode cX2_init 95 = .ok (.iconst 0, 1) := decs_at DX2_init_48 1 rfl
theorem dX2_init_96 : decode cX2_init 96 = .ok (.putfield 57, 3) := decs_at DX2_init_48 2 rfl
theorem dX2_init_99 : decode cX2_init 99 = .ok (.aload_n 0, 1) := decs_at DX2_init_48 3 rfl
theorem dX2_init_100 : decode cX2_init 100 = .ok (.iconst 0, 1) := decs_at DX2_init_48 4 rfl
theorem dX2_init_101 : decode cX2_init 101 = .ok (.putfield 60, 3) := decs_at DX2_init_48 5 rfl
theorem dX2_init_104 : decode cX2_init 104 = .ok (.aload_n 0, 1) := decs_at DX2_init_48 6 rfl
theorem dX2_init_105 : decode cX2_init 105 = .ok (.iconst 0, 1) := decs_at DX2_init_48 7 rfl
theorem dX2_init_106 : decode cX2_init 106 = .ok (.putfield 64, 3) := decs_at DX2_init_48 8 rfl
theorem dX2_init_109 : decode cX2_init 109 = .ok (.aload_n 0, 1) := decs_at DX2_init_48 9 rfl
theorem dX2_init_110 : decode cX2_init 110 = .ok (.iconst 0, 1) := decs_at DX2_init_48 10 rfl
theorem dX2_init_111 : decode cX2_init 111 = .ok (.putfield 67, 3) := decs_at DX2_init_48 11 rfl
theorem dX2_init_114 : decode cX2_init 114 = .ok (.aload_n 0, 1) := decs_at DX2_init_48 12 rfl
theorem dX2_init_115 : decode cX2_init 115 = .ok (.aload_n 1, 1) := decs_at DX2_init_48 13 rfl
theorem dX2_init_116 : decode cX2_init 116 = .ok (.putfield 70, 3) := decs_at DX2_init_48 14 rfl
theorem dX2_init_119 : decode cX2_init 119 = .ok (.aload_n 0, 1) := decs_at DX2_init_48 15 rfl
theorem dX2_init_120 : decode cX2_init 120 = .ok (.aload_n 2, 1) := decs_at DX2_init_48 16 rfl
theorem dX2_init_121 : decode cX2_init 121 = .ok (.putfield 73, 3) := decs_at DX2_init_48 17 rfl
theorem dX2_init_124 : decode cX2_init 124 = .ok (.return_, 1) := decs_at DX2_init_48 18 rfl
theorem DX11_init_0 : decs cX11_init [(0, .aload_n 0, 1), (1, .invokespecial 3, 3), (4, .aload_n 0, 1), (5, .new 9, 3), (8, .dup, 1), (9, .invokespecial 11, 3), (12, .putfield 12, 3), (15, .aload_n 0, 1), (16, .new 16, 3), (19, .dup, 1), (20, .aload_n 0, 1), (21, .getfield 12, 3), (24, .invokespecial 18, 3), (27, .putfield 21, 3), (30, .aload_n 0, 1), (31, .new 25, 3), (34, .dup, 1), (35, .aload_n 0, 1), (36, .getfield 21, 3), (39, .invokespecial 27, 3), (42, .putfield 30, 3), (45, .aload_n 0, 1), (46, .new 34, 3), (49, .dup, 1)] := by unfold decs; decide +kernel
theorem dX11_init_0 : decode cX11_init 0 = .ok (.aload_n 0, 1) := decs_at DX11_init_0 0 rfl
theorem dX11_init_1 : decode cX11_init 1 = .ok (.invokespecial 3, 3) := decs_at DX11_init_0 1 rfl
theorem dX11_init_4 : decode cX11_init 4 = .ok (.aload_n 0, 1) := decs_at DX11_init_0 2 rfl
theorem dX11_init_5 : decode cX11_init 5 = .ok (.new 9, 3) := decs_at DX11_init_0 3 rfl
theorem dX11_init_8 : decode cX11_init 8 = .ok (.dup, 1) := decs_at DX11_init_0 4 rfl
theorem dX11_init_9 : decode cX11_init 9 = .ok (.invokespecial 11, 3) := decs_at DX11_init_0 5 rfl
theorem dX11_init_12 : decode cX11_init 12 = .ok (.putfield 12, 3) := decs_at DX11_init_0 6 rfl
theorem dX11_init_15 : decode cX11_init 15 = .ok (.aload_n 0, 1) := decs_at DX11_init_0 7 rfl
theorem dX11_init_16 : decode cX11_init 16 = .ok (.new 16, 3) := decs_at DX11_init_0 8 rfl
theorem dX11_init_19 : decode cX11_init 19 = .ok (.dup, 1) := decs_at DX11_init_0 9 rfl
theorem dX11_init_20 : decode cX11_init 20 = .ok (.aload_n 0, 1) := decs_at DX11_init_0 10 rfl
theorem dX11_init_21 : decode cX11_init 21 = .ok (.getfield 12, 3) := decs_at DX11_init_0 11 rfl
theorem dX11_init_24 : decode cX11_init 24 = .ok (.invokespecial 18, 3) := decs_at DX11_init_0 12 rfl
theorem dX11_init_27 : decode cX11_init 27 = .ok (.putfield 21, 3) := decs_at DX11_init_0 13 rfl
theorem dX11_init_30 : decode cX11_init 30 = .ok (.aload_n 0, 1) := decs_at DX11_init_0 14 rfl
theorem dX11_init_31 : decode cX11_init 31 = .ok (.new 25, 3) := decs_at DX11_init_0 15 rfl
theorem dX11_init_34 : decode cX11_init 34 = .ok (.dup, 1) := decs_at DX11_init_0 16 rfl
theorem dX11_init_35 : decode cX11_init 35 = .ok (.aload_n 0, 1) := decs_at DX11_init_0 17 rfl
theorem dX11_init_36 : decode cX11_init 36 = .ok (.getfield 21, 3) := decs_at DX11_init_0 18 rfl
theorem dX11_init_39 : decode cX11_init 39 = .ok (.invokespecial 27, 3) := decs_at DX11_init_0 19 rfl
theorem dX11_init_42 : decode cX11_init 42 = .ok (.putfield 30, 3) := decs_at DX11_init_0 20 rfl
theorem dX11_init_45 : decode cX11_init 45 = .ok (.aload_n 0, 1) := decs_at DX11_init_0 21 rfl
theorem dX11_init_46 : decode cX11_init 46 = .ok (.new 34, 3) := decs_at DX11_init_0 22 rfl
theorem dX11_init_49 : decode cX11_init 49 = .ok (.dup, 1) := decs_at DX11_init_0 23 rfl
theorem DX11_init_24 : decs cX11_init [(50, .aload_n 0, 1), (51, .getfield 21, 3), (54, .invokespecial 36, 3), (57, .putfield 37, 3), (60, .aload_n 0, 1), (61, .new 41, 3), (64, .dup, 1), (65, .invokespecial 43, 3), (68, .putfield 44, 3), (71, .aload_n 0, 1), (72, .new 48, 3), (75, .dup, 1), (76, .invokespecial 50, 3), (79, .putfield 51, 3), (82, .aload_n 0, 1), (83, .new 55, 3), (86, .dup, 1), (87, .invokespecial 57, 3), (90, .putfield 58, 3), (93, .aload_n 0, 1), (94, .new 62, 3), (97, .dup, 1), (98, .invokespecial 64, 3), (101, .putfield 65, 3)] := by unfold decs; decide +kernel
theorem dX11_init_50 : decode cX11_init 50 = .ok (.aload_n 0, 1) := decs_at DX11_init_24 0 rfl
theorem dX11_init_51 : decode cX11_init 51 = .ok (.getfield 21, 3) := decs_at DX11_init_24 1 rfl
theorem dX11_init_54 : decode cX11_init 54 = .ok (.invokespecial 36, 3) := decs_at DX11_init_24 2 rfl
theorem dX11_init_57 : decode cX11_init 57 = .ok (.putfield 37, 3) := decs_at DX11_init_24 3 rfl
theorem dX11_init_60 : decode cX11_init 60 = .ok (.aload_n 0, 1) := decs_at DX11_init_24 4 rfl
theorem dX11_init_61 : decode cX11_init 61 = .ok (.new 41, 3) := decs_at DX11_init_24 5 rfl
theorem dX11_init_64 : decode cX11_init 64 = .ok (.dup, 1) := decs_at DX11_init_24 6 rfl
theorem dX11_init_65 : decode cX11_init 65 = .ok (.invokespecial 43, 3) := decs_at DX11_init_24 7 rfl
theorem dX11_init_68 : decode cX11_init 68 = .ok (.putfield 44, 3) := decs_at DX11_init_24 8 rfl
theorem dX11_init_71 : decode cX11_init 71 = .ok (.aload_n 0, 1) := decs_at DX11_init_24 9 rfl
theorem dX11_init_72 : decode cX11_init 72 = .ok (.new 48, 3) := decs_at DX11_init_24 10 rfl
theorem dX11_init_75 : decode cX11_init 75 = .ok (.dup, 1) := decs_at DX11_init_24 11 rfl
theorem dX11_init_76 : decode cX11_init 76 = .ok (.invokespecial 50, 3) := decs_at DX11_init_24 12 rfl
theorem dX11_init_79 : decode cX11_init 79 = .ok (.putfield 51, 3) := decs_at DX11_init_24 13 rfl
theorem dX11_init_82 : decode cX11_init 82 = .ok (.aload_n 0, 1) := decs_at DX11_init_24 14 rfl
theorem dX11_init_83 : decode cX11_init 83 = .ok (.new 55, 3) := decs_at DX11_init_24 15 rfl
theorem dX11_init_86 : decode cX11_init 86 = .ok (.dup, 1) := decs_at DX11_init_24 16 rfl
theorem dX11_init_87 : decode cX11_init 87 = .ok (.invokespecial 57, 3) := decs_at DX11_init_24 17 rfl
theorem dX11_init_90 : decode cX11_init 90 = .ok (.putfield 58, 3) := decs_at DX11_init_24 18 rfl
theorem dX11_init_93 : decode cX11_init 93 = .ok (.aload_n 0, 1) := decs_at DX11_init_24 19 rfl
theorem dX11_init_94 : decode cX11_init 94 = .ok (.new 62, 3) := decs_at DX11_init_24 20 rfl
theorem dX11_init_97 : decode cX11_init 97 = .ok (.dup, 1) := decs_at DX11_init_24 21 rfl
theorem dX11_init_98 : decode cX11_init 98 = .ok (.invokespecial 64, 3) := decs_at DX11_init_24 22 rfl
theorem dX11_init_101 : decode cX11_init 101 = .ok (.putfield 65, 3) := decs_at DX11_init_24 23 rfl
theorem DX11_init_48 : decs cX11_init [(104, .aload_n 0, 1), (105, .new 69, 3), (108, .dup, 1), (109, .aload_n 0, 1), (110, .getfield 44, 3), (113, .aload_n 0, 1), (114, .getfield 51, 3), (117, .invokespecial 71, 3), (120, .putfield 74, 3), (123, .aload_n 0, 1), (124, .new 78, 3), (127, .dup, 1), (128, .aload_n 0, 1), (129, .getfield 44, 3), (132, .aload_n 0, 1), (133, .getfield 51, 3), (136, .invokespecial 80, 3), (139, .putfield 81, 3), (142, .aload_n 0, 1), (143, .new 85, 3), (146, .dup, 1), (147, .invokespecial 87, 3), (150, .putfield 88, 3), (153, .aload_n 0, 1)] := by unfold decs; decide +kernel
theorem dX11_init_104 : decode cX11_init 104 = .ok (.aload_n 0, 1) := decs_at DX11_init_48 0 rfl
theorem dX11_init_105 : decode cX11_init 105 = .ok (.new 69, 3) := decs_at DX11_init_48 1 rfl
theorem dX11_init_108 : decode cX11_init 108 = .ok (.dup, 1) := decs_at DX11_init_48 2 rfl
theorem dX11_init_109 : decode cX11_init 109 = .ok (.aload_n 0, 1) := decs_at DX11_init_48 3 rfl
theorem dX11_init_110 : decode cX11_init 110 = .ok (.getfield 44, 3) := decs_at DX11_init_48 4 rfl
theorem dX11_init_113 : decode cX11_init 113 = .ok (.aload_n 0, 1) := decs_at DX11_init_48 5 rfl
theorem dX11_init_114 : decode cX11_init 114 = .ok (.getfield 51, 3) := decs_at DX11_init_48 6 rfl
theorem dX11_init_117 : decode cX11_init 117 = .ok (.invokespecial 71, 3) := decs_at DX11_init_48 7 rfl
theorem dX11_init_120 : decode cX11_init 120 = .ok (.putfield 74, 3) := decs_at DX11_init_48 8 rfl
theorem dX11_init_123 : decode cX11_init 123 = .ok (.aload_n 0, 1) := decs_at DX11_init_48 9 rfl
theorem dX11_init_124 : decode cX11_init 124 = .ok (.new 78, 3) := decs_at DX11_init_48 10 rfl
theorem dX11_init_127 : decode cX11_init 127 = .ok (.dup, 1) := decs_at DX11_init_48 11 rfl
theorem dX11_init_128 : decode cX11_init 128 = .ok (.aload_n 0, 1) := decs_at DX11_init_48 12 rfl
theorem dX11_init_129 : decode cX11_init 129 = .ok (.getfield 44, 3) := decs_at DX11_init_48 13 rfl
theorem dX11_init_132 : decode cX11_init 132 = .ok (.aload_n 0, 1) := decs_at DX11_init_48 14 rfl
theorem dX11_init_133 : decode cX11_init 133 = .ok (.getfield 51, 3) := decs_at DX11_init_48 15 rfl
theorem dX11_init_136 : decode cX11_init 136 = .ok (.invokespecial 80, 3) := decs_at DX11_init_48 16 rfl
theorem dX11_init_139 : decode cX11_init 139 = .ok (.putfield 81, 3) := decs_at DX11_init_48 17 rfl
theorem dX11_init_142 : decode cX11_init 142 = .ok (.aload_n 0, 1) := decs_at DX11_init_48 18 rfl
theorem dX11_init_143 : decode cX11_init 143 = .ok (.new 85, 3) := decs_at DX11_init_48 19 rfl
theorem dX11_init_146 : decode cX11_init 146 = .ok (.dup, 1) := decs_at DX11_init_48 20 rfl
theorem dX11_init_147 : decode cX11_init 147 = .ok (.invokespecial 87, 3) := decs_at DX11_init_48 21 rfl
theorem dX11_init_150 : decode cX11_init 150 = .ok (.putfield 88, 3) := decs_at DX11_init_48 22 rfl
theorem dX11_init_153 : decode cX11_init 153 = .ok (.aload_n 0, 1) := decs_at DX11_init_48 23 rfl
theorem DX11_init_72 : decs cX11_init [(154, .iconst 0, 1), (155, .putfield 92, 3), (158, .aload_n 0, 1), (159, .iconst 0, 1), (160, .putfield 96, 3), (163, .aload_n 0, 1), (164, .getfield 44, 3), (167, .iconst 0, 1), (168, .bipush 50, 2), (170, .invokevirtual 100, 3), (173, .return_, 1)] := by unfold decs; decide +kernel
theorem dX11_init_154 : decode cX11_init 154 = .ok (.iconst 0, 1) := decs_at DX11_init_72 0 rfl
theorem dX11_init_155 : decode cX11_init 155 = .ok (.putfield 92, 3) := decs_at DX11_init_72 1 rfl
theorem dX11_init_158 : decode cX11_init 158 = .ok (.aload_n 0, 1) := decs_at DX11_init_72 2 rfl
theorem dX11_init_159 : decode cX11_init 159 = .ok (.iconst 0, 1) := decs_at DX11_init_72 3 rfl
theorem dX11_init_160 : decode cX11_init 160 = .ok (.putfield 96, 3) := decs_at DX11_init_72 4 rfl
theorem dX11_init_163 : decode cX11_init 163 = .ok (.aload_n 0, 1) := decs_at DX11_init_72 5 rfl
theorem dX11_init_164 : decode cX11_init 164 = .ok (.getfield 44, 3) := decs_at DX11_init_72 6 rfl
theorem dX11_init_167 : decode cX11_init 167 = .ok (.iconst 0, 1) := decs_at DX11_init_72 7 rfl
theorem dX11_init_168 : decode cX11_init 168 = .ok (.bipush 50, 2) := decs_at DX11_init_72 8 rfl
theorem dX11_init_170 : decode cX11_init 170 = .ok (.invokevirtual 100, 3) := decs_at DX11_init_72 9 rfl
theorem dX11_init_173 : decode cX11_init 173 = .ok (.return_, 1) := decs_at DX11_init_72 10 rfl
theorem DX12_init_0 : decs cX12_init [(0, .aload_n 0, 1), (1, .invokespecial 1, 3), (4, .aload_n 0, 1), (5, .sipush 740, 3), (8, .newarray .int, 2), (10, .putfield 7, 3), (13, .aload_n 0, 1), (14, .sipush 224, 3), (17, .newarray .int, 2), (19, .putfield 13, 3), (22, .aload_n 0, 1), (23, .iconst 1, 1), (24, .putfield 16, 3), (27, .aload_n 0, 1), (28, .sipush 700, 3), (31, .putfield 20, 3), (34, .aload_n 0, 1), (35, .bipush 40, 2), (37, .putfield 23, 3), (40, .aload_n 0, 1), (41, .bipush 40, 2), (43, .newarray .int, 2), (45, .putfield 26, 3), (48, .aload_n 0, 1)] := by unfold decs; decide +kernel
theorem dX12_init_0 : decode cX12_init 0 = .ok (.aload_n 0, 1) := decs_at DX12_init_0 0 rfl
theorem dX12_init_1 : decode cX12_init 1 = .ok (.invokespecial 1, 3) := decs_at DX12_init_0 1 rfl
theorem dX12_init_4 : decode cX12_init 4 = .ok (.aload_n 0, 1) := decs_at DX12_init_0 2 rfl
theorem dX12_init_5 : decode cX12_init 5 = .ok (.sipush 740, 3) := decs_at DX12_init_0 3 rfl
theorem dX12_init_8 : decode cX12_init 8 = .ok (.newarray .int, 2) := decs_at DX12_init_0 4 rfl
theorem dX12_init_10 : decode cX12_init 10 = .ok (.putfield 7, 3) := decs_at DX12_init_0 5 rfl
theorem dX12_init_13 : decode cX12_init 13 = .ok (.aload_n 0, 1) := decs_at DX12_init_0 6 rfl
theorem dX12_init_14 : decode cX12_init 14 = .ok (.sipush 224, 3) := decs_at DX12_init_0 7 rfl
theorem dX12_init_17 : decode cX12_init 17 = .ok (.newarray .int, 2) := decs_at DX12_init_0 8 rfl
theorem dX12_init_19 : decode cX12_init 19 = .ok (.putfield 13, 3) := decs_at DX12_init_0 9 rfl
theorem dX12_init_22 : decode cX12_init 22 = .ok (.aload_n 0, 1) := decs_at DX12_init_0 10 rfl
theorem dX12_init_23 : decode cX12_init 23 = .ok (.iconst 1, 1) := decs_at DX12_init_0 11 rfl
theorem dX12_init_24 : decode cX12_init 24 = .ok (.putfield 16, 3) := decs_at DX12_init_0 12 rfl
theorem dX12_init_27 : decode cX12_init 27 = .ok (.aload_n 0, 1) := decs_at DX12_init_0 13 rfl
theorem dX12_init_28 : decode cX12_init 28 = .ok (.sipush 700, 3) := decs_at DX12_init_0 14 rfl
theorem dX12_init_31 : decode cX12_init 31 = .ok (.putfield 20, 3) := decs_at DX12_init_0 15 rfl
theorem dX12_init_34 : decode cX12_init 34 = .ok (.aload_n 0, 1) := decs_at DX12_init_0 16 rfl
theorem dX12_init_35 : decode cX12_init 35 = .ok (.bipush 40, 2) := decs_at DX12_init_0 17 rfl
theorem dX12_init_37 : decode cX12_init 37 = .ok (.putfield 23, 3) := decs_at DX12_init_0 18 rfl
theorem dX12_init_40 : decode cX12_init 40 = .ok (.aload_n 0, 1) := decs_at DX12_init_0 19 rfl
theorem dX12_init_41 : decode cX12_init 41 = .ok (.bipush 40, 2) := decs_at DX12_init_0 20 rfl
theorem dX12_init_43 : decode cX12_init 43 = .ok (.newarray .int, 2) := decs_at DX12_init_0 21 rfl
theorem dX12_init_45 : decode cX12_init 45 = .ok (.putfield 26, 3) := decs_at DX12_init_0 22 rfl
theorem dX12_init_48 : decode cX12_init 48 = .ok (.aload_n 0, 1) := decs_at DX12_init_0 23 rfl
theorem DX12_init_24 : decs cX12_init [(49, .bipush 40, 2), (51, .newarray .int, 2), (53, .putfield 29, 3), (56, .aload_n 0, 1), (57, .bipush 40, 2), (59, .newarray .int, 2), (61, .putfield 32, 3), (64, .aload_n 0, 1), (65, .bipush 17, 2), (67, .newarray .int, 2), (69, .putfield 35, 3), (72, .aload_n 0, 1), (73, .bipush 17, 2), (75, .newarray .int, 2), (77, .putfield 38, 3), (80, .aload_n 0, 1), (81, .bipush 17, 2), (83, .newarray .int, 2), (85, .putfield 41, 3), (88, .aload_n 0, 1), (89, .bipush 17, 2), (91, .newarray .int, 2), (93, .putfield 44, 3), (96, .aload_n 0, 1)] := by unfold decs; decide +kernel
theorem dX12_init_49 : decode cX12_init 49 = .ok (.bipush 40, 2) := decs_at DX12_init_24 0 rfl
theorem dX12_init_51 : decode cX12_init 51 = .ok (.newarray .int, 2) := decs_at DX12_init_24 1 rfl
theorem dX12_init_53 : decode cX12_init 53 = .ok (.putfield 29, 3) := decs_at DX12_init_24 2 rfl
theorem dX12_init_56 : decode cX12_init 56 = .ok (.aload_n 0, 1) := decs_at DX12_init_24 3 rfl
theorem dX12_init_57 : decode cX12_init 57 = .ok (.bipush 40, 2) := decs_at DX12_init_24 4 rfl
theorem dX12_init_59 : decode cX12_init 59 = .ok (.newarray .int, 2) := decs_at DX12_init_24 5 rfl
theorem dX12_init_61 : decode cX12_init 61 = .ok (.putfield 32, 3) := decs_at DX12_init_24 6 rfl
theorem dX12_init_64 : decode cX12_init 64 = .ok (.aload_n 0, 1) := decs_at DX12_init_24 7 rfl
theorem dX12_init_65 : decode cX12_init 65 = .ok (.bipush 17, 2) := decs_at DX12_init_24 8 rfl
theorem dX12_init_67 : decode cX12_init 67 = .ok (.newarray .int, 2) := decs_at DX12_init_24 9 rfl
theorem dX12_init_69 : decode cX12_init 69 = .ok (.putfield 35, 3) := decs_at DX12_init_24 10 rfl
theorem dX12_init_72 : decode cX12_init 72 = .ok (.aload_n 0, 1) := decs_at DX12_init_24 11 rfl
theorem dX12_init_73 : decode cX12_init 73 = .ok (.bipush 17, 2) := decs_at DX12_init_24 12 rfl
theorem dX12_init_75 : decode cX12_init 75 = .ok (.newarray .int, 2) := decs_at DX12_init_24 13 rfl
theorem dX12_init_77 : decode cX12_init 77 = .ok (.putfield 38, 3) := decs_at DX12_init_24 14 rfl
theorem dX12_init_80 : decode cX12_init 80 = .ok (.aload_n 0, 1) := decs_at DX12_init_24 15 rfl
theorem dX12_init_81 : decode cX12_init 81 = .ok (.bipush 17, 2) := decs_at DX12_init_24 16 rfl
theorem dX12_init_83 : decode cX12_init 83 = .ok (.newarray .int, 2) := decs_at DX12_init_24 17 rfl
theorem dX12_init_85 : decode cX12_init 85 = .ok (.putfield 41, 3) := decs_at DX12_init_24 18 rfl
theorem dX12_init_88 : decode cX12_init 88 = .ok (.aload_n 0, 1) := decs_at DX12_init_24 19 rfl
theorem dX12_init_89 : decode cX12_init 89 = .ok (.bipush 17, 2) := decs_at DX12_init_24 20 rfl
theorem dX12_init_91 : decode cX12_init 91 = .ok (.newarray .int, 2) := decs_at DX12_init_24 21 rfl
theorem dX12_init_93 : decode cX12_init 93 = .ok (.putfield 44, 3) := decs_at DX12_init_24 22 rfl
theorem dX12_init_96 : decode cX12_init 96 = .ok (.aload_n 0, 1) := decs_at DX12_init_24 23 rfl
theorem DX12_init_48 : decs cX12_init [(97, .bipush 17, 2), (99, .newarray .int, 2), (101, .putfield 47, 3), (104, .aload_n 0, 1), (105, .bipush 17, 2), (107, .newarray .int, 2), (109, .putfield 50, 3), (112, .aload_n 0, 1), (113, .bipush 17, 2), (115, .newarray .int, 2), (117, .putfield 53, 3), (120, .aload_n 0, 1), (121, .bipush 17, 2), (123, .newarray .int, 2), (125, .putfield 56, 3), (128, .aload_n 0, 1), (129, .bipush 17, 2), (131, .newarray .int, 2), (133, .putfield 59, 3), (136, .aload_n 0, 1), (137, .bipush 18, 2), (139, .newarray .int, 2), (141, .putfield 62, 3), (144, .aload_n 0, 1)] := by unfold decs; decide +kernel
theorem dX12_init_97 : decode cX12_init 97 = .ok (.bipush 17, 2) := decs_at DX12_init_48 0 rfl
theorem dX12_init_99 : decode cX12_init 99 = .ok (.newarray .int, 2) := decs_at DX12_init_48 1 rfl
theorem dX12_init_101 : decode cX12_init 101 = .ok (.putfield 47, 3) := decs_at DX12_init_48 2 rfl
theorem dX12_init_104 : decode cX12_init 104 = .ok (.aload_n 0, 1) := decs_at DX12_init_48 3 rfl
theorem dX12_init_105 : decode cX12_init 105 = .ok (.bipush 17, 2) := decs_at DX12_init_48 4 rfl
theorem dX12_init_107 : decode cX12_init 107 = .ok (.newarray .int, 2) := decs_at DX12_init_48 5 rfl
theorem dX12_init_109 : decode cX12_init 109 = .ok (.putfield 50, 3) := decs_at DX12_init_48 6 rfl
theorem dX12_init_112 : decode cX12_init 112 = .ok (.aload_n 0, 1) := decs_at DX12_init_48 7 rfl
theorem dX12_init_113 : decode cX12_init 113 = .ok (.bipush 17, 2) := decs_at DX12_init_48 8 rfl
theorem dX12_init_115 : decode cX12_init 115 = .ok (.newarray .int, 2) := decs_at DX12_init_48 9 rfl
theorem dX12_init_117 : decode cX12_init 117 = .ok (.putfield 53, 3) := decs_at DX12_init_48 10 rfl
theorem dX12_init_120 : decode cX12_init 120 = .ok (.aload_n 0, 1) := decs_at DX12_init_48 11 rfl
theorem dX12_init_121 : decode cX12_init 121 = .ok (.bipush 17, 2) := decs_at DX12_init_48 12 rfl
theorem dX12_init_123 : decode cX12_init 123 = .ok (.newarray .int, 2) := decs_at DX12_init_48 13 rfl
theorem dX12_init_125 : decode cX12_init 125 = .ok (.putfield 56, 3) := decs_at DX12_init_48 14 rfl
theorem dX12_init_128 : decode cX12_init 128 = .ok (.aload_n 0, 1) := decs_at DX12_init_48 15 rfl
theorem dX12_init_129 : decode cX12_init 129 = .ok (.bipush 17, 2) := decs_at DX12_init_48 16 rfl
theorem dX12_init_131 : decode cX12_init 131 = .ok (.newarray .int, 2) := decs_at DX12_init_48 17 rfl
theorem dX12_init_133 : decode cX12_init 133 = .ok (.putfield 59, 3) := decs_at DX12_init_48 18 rfl
theorem dX12_init_136 : decode cX12_init 136 = .ok (.aload_n 0, 1) := decs_at DX12_init_48 19 rfl
theorem dX12_init_137 : decode cX12_init 137 = .ok (.bipush 18, 2) := decs_at DX12_init_48 20 rfl
theorem dX12_init_139 : decode cX12_init 139 = .ok (.newarray .int, 2) := decs_at DX12_init_48 21 rfl
theorem dX12_init_141 : decode cX12_init 141 = .ok (.putfield 62, 3) := decs_at DX12_init_48 22 rfl
theorem dX12_init_144 : decode cX12_init 144 = .ok (.aload_n 0, 1) := decs_at DX12_init_48 23 rfl
theorem DX12_init_72 : decs cX12_init [(145, .bipush 16, 2), (147, .newarray .int, 2), (149, .dup, 1), (150, .iconst 0, 1), (151, .iconst 0, 1), (152, .iastore, 1), (153, .dup, 1), (154, .iconst 1, 1), (155, .iconst 1, 1), (156, .iastore, 1), (157, .dup, 1), (158, .iconst 2, 1), (159, .iconst 2, 1), (160, .iastore, 1), (161, .dup, 1), (162, .iconst 3, 1), (163, .iconst 3, 1), (164, .iastore, 1), (165, .dup, 1), (166, .iconst 4, 1), (167, .iconst 4, 1), (168, .iastore, 1), (169, .dup, 1), (170, .iconst 5, 1)] := by unfold decs; decide +kernel
theorem dX12_init_145 : decode cX12_init 145 = .ok (.bipush 16, 2) := decs_at DX12_init_72 0 rfl
theorem dX12_init_147 : decode cX12_init 147 = .ok (.newarray .int, 2) := decs_at DX12_init_72 1 rfl
theorem dX12_init_149 : decode cX12_init 149 = .ok (.dup, 1) := decs_at DX12_init_72 2 rfl
theorem dX12_init_150 : decode cX12_init 150 = .ok (.iconst 0, 1) := decs_at DX12_init_72 3 rfl
theorem dX12_init_151 : decode cX12_init 151 = .ok (.iconst 0, 1) := decs_at DX12_init_72 4 rfl
theorem dX12_init_152 : decode cX12_init 152 = .ok (.iastore, 1) := decs_at DX12_init_72 5 rfl
theorem dX12_init_153 : decode cX12_init 153 = .ok (.dup, 1) := decs_at DX12_init_72 6 rfl
theorem dX12_init_154 : decode cX12_init 154 = .ok (.iconst 1, 1) := decs_at DX12_init_72 7 rfl
theorem dX12_init_155 : decode cX12_init 155 = .ok (.iconst 1, 1) := decs_at DX12_init_72 8 rfl
theorem dX12_init_156 : decode cX12_init 156 = .ok (.iastore, 1) := decs_at DX12_init_72 9 rfl
theorem dX12_init_157 : decode cX12_init 157 = .ok (.dup, 1) := decs_at DX12_init_72 10 rfl
theorem dX12_init_158 : decode cX12_init 158 = .ok (.iconst 2, 1) := decs_at DX12_init_72 11 rfl
theorem dX12_init_159 : decode cX12_init 159 = .ok (.iconst 2, 1) := decs_at DX12_init_72 12 rfl
theorem dX12_init_160 : decode cX12_init 160 = .ok (.iastore, 1) := decs_at DX12_init_72 13 rfl
theorem dX12_init_161 : decode cX12_init 161 = .ok (.dup, 1) := decs_at DX12_init_72 14 rfl
theorem dX12_init_162 : decode cX12_init 162 = .ok (.iconst 3, 1) := decs_at DX12_init_72 15 rfl
theorem dX12_init_163 : decode cX12_init 163 = .ok (.iconst 3, 1) := decs_at DX12_init_72 16 rfl
theorem dX12_init_164 : decode cX12_init 164 = .ok (.iastore, 1) := decs_at DX12_init_72 17 rfl
theorem dX12_init_165 : decode cX12_init 165 = .ok (.dup, 1) := decs_at DX12_init_72 18 rfl
theorem dX12_init_166 : decode cX12_init 166 = .ok (.iconst 4, 1) := decs_at DX12_init_72 19 rfl
theorem dX12_init_167 : decode cX12_init 167 = .ok (.iconst 4, 1) := decs_at DX12_init_72 20 rfl
theorem dX12_init_168 : decode cX12_init 168 = .ok (.iastore, 1) := decs_at DX12_init_72 21 rfl
theorem dX12_init_169 : decode cX12_init 169 = .ok (.dup, 1) := decs_at DX12_init_72 22 rfl
theorem dX12_init_170 : decode cX12_init 170 = .ok (.iconst 5, 1) := decs_at DX12_init_72 23 rfl
theorem DX12_init_96 : decs cX12_init [(171, .iconst 5, 1), (172, .iastore, 1), (173, .dup, 1), (174, .bipush 6, 2), (176, .bipush 6, 2), (178, .iastore, 1), (179, .dup, 1), (180, .bipush 7, 2), (182, .bipush 7, 2), (184, .iastore, 1), (185, .dup, 1), (186, .bipush 8, 2), (188, .bipush 8, 2), (190, .iastore, 1), (191, .dup, 1), (192, .bipush 9, 2), (194, .bipush 9, 2), (196, .iastore, 1), (197, .dup, 1), (198, .bipush 10, 2), (200, .bipush 10, 2), (202, .iastore, 1), (203, .dup, 1), (204, .bipush 11, 2)] := by unfold decs; decide +kernel
theorem dX12_init_171 : decode cX12_init 171 = .ok (.iconst 5, 1) := decs_at DX12_init_96 0 rfl
theorem dX12_init_172 : decode cX12_init 172 = .ok (.iastore, 1) := decs_at DX12_init_96 1 rfl
theorem dX12_init_173 : decode cX12_init 173 = .ok (.dup, 1) := decs_at DX12_init_96 2 rfl
theorem dX12_init_174 : decode cX12_init 174 = .ok (.bipush 6, 2) := decs_at DX12_init_96 3 rfl
theorem dX12_init_176 : decode cX12_init 176 = .ok (.bipush 6, 2) := decs_at DX12_init_96 4 rfl
theorem dX12_init_178 : decode cX12_init 178 = .ok (.iastore, 1) := decs_at DX12_init_96 5 rfl
theorem dX12_init_179 : decode cX12_init 179 = .ok (.dup, 1) := decs_at DX12_init_96 6 rfl
theorem dX12_init_180 : decode cX12_init 180 = .ok (.bipush 7, 2) := decs_at DX12_init_96 7 rfl
theorem dX12_init_182 : decode cX12_init 182 = .ok (.bipush 7, 2) := decs_at DX12_init_96 8 rfl
theorem dX12_init_184 : decode cX12_init 184 = .ok (.iastore, 1) := decs_at DX12_init_96 9 rfl
theorem dX12_init_185 : decode cX12_init 185 = .ok (.dup, 1) := decs_at DX12_init_96 10 rfl
theorem dX12_init_186 : decode cX12_init 186 = .ok (.bipush 8, 2) := decs_at DX12_init_96 11 rfl
theorem dX12_init_188 : decode cX12_init 188 = .ok (.bipush 8, 2) := decs_at DX12_init_96 12 rfl
theorem dX12_init_190 : decode cX12_init 190 = .ok (.iastore, 1) := decs_at DX12_init_96 13 rfl
theorem dX12_init_191 : decode cX12_init 191 = .ok (.dup, 1) := decs_at DX12_init_96 14 rfl
theorem dX12_init_192 : decode cX12_init 192 = .ok (.bipush 9, 2) := decs_at DX12_init_96 15 rfl
theorem dX12_init_194 : decode cX12_init 194 = .ok (.bipush 9, 2) := decs_at DX12_init_96 16 rfl
theorem dX12_init_196 : decode cX12_init 196 = .ok (.iastore, 1) := decs_at DX12_init_96 17 rfl
theorem dX12_init_197 : decode cX12_init 197 = .ok (.dup, 1) := decs_at DX12_init_96 18 rfl
theorem dX12_init_198 : decode cX12_init 198 = .ok (.bipush 10, 2) := decs_at DX12_init_96 19 rfl
theorem dX12_init_200 : decode cX12_init 200 = .ok (.bipush 10, 2) := decs_at DX12_init_96 20 rfl
theorem dX12_init_202 : decode cX12_init 202 = .ok (.iastore, 1) := decs_at DX12_init_96 21 rfl
theorem dX12_init_203 : decode cX12_init 203 = .ok (.dup, 1) := decs_at DX12_init_96 22 rfl
theorem dX12_init_204 : decode cX12_init 204 = .ok (.bipush 11, 2) := decs_at DX12_init_96 23 rfl
theorem DX12_init_120 : decs cX12_init [(206, .bipush 11, 2), (208, .iastore, 1), (209, .dup, 1), (210, .bipush 12, 2), (212, .bipush 12, 2), (214, .iastore, 1), (215, .dup, 1), (216, .bipush 13, 2), (218, .bipush 13, 2), (220, .iastore, 1), (221, .dup, 1), (222, .bipush 14, 2), (224, .bipush 14, 2), (226, .iastore, 1), (227, .dup, 1), (228, .bipush 15, 2), (230, .bipush 15, 2), (232, .iastore, 1), (233, .putfield 65, 3), (236, .aload_n 0, 1), (237, .bipush 16, 2), (239, .newarray .int, 2), (241, .putfield 68, 3), (244, .aload_n 0, 1)] := by unfold decs; decide +kernel
theorem dX12_init_206 : decode cX12_init 206 = .ok (.bipush 11, 2) := decs_at DX12_init_120 0 rfl
theorem dX12_init_208 : decode cX12_init 208 = .ok (.iastore, 1) := decs_at DX12_init_120 1 rfl
theorem dX12_init_209 : decode cX12_init 209 = .ok (.dup, 1) := decs_at DX12_init_120 2 rfl
theorem dX12_init_210 : decode cX12_init 210 = .ok (.bipush 12, 2) := decs_at DX12_init_120 3 rfl
theorem dX12_init_212 : decode cX12_init 212 = .ok (.bipush 12, 2) := decs_at DX12_init_120 4 rfl
theorem dX12_init_214 : decode cX12_init 214 = .ok (.iastore, 1) := decs_at DX12_init_120 5 rfl
theorem dX12_init_215 : decode cX12_init 215 = .ok (.dup, 1) := decs_at DX12_init_120 6 rfl
theorem dX12_init_216 : decode cX12_init 216 = .ok (.bipush 13, 2) := decs_at DX12_init_120 7 rfl
theorem dX12_init_218 : decode cX12_init 218 = .ok (.bipush 13, 2) := decs_at DX12_init_120 8 rfl
theorem dX12_init_220 : decode cX12_init 220 = .ok (.iastore, 1) := decs_at DX12_init_120 9 rfl
theorem dX12_init_221 : decode cX12_init 221 = .ok (.dup, 1) := decs_at DX12_init_120 10 rfl
theorem dX12_init_222 : decode cX12_init 222 = .ok (.bipush 14, 2) := decs_at DX12_init_120 11 rfl
theorem dX12_init_224 : decode cX12_init 224 = .ok (.bipush 14, 2) := decs_at DX12_init_120 12 rfl
theorem dX12_init_226 : decode cX12_init 226 = .ok (.iastore, 1) := decs_at DX12_init_120 13 rfl
theorem dX12_init_227 : decode cX12_init 227 = .ok (.dup, 1) := decs_at DX12_init_120 14 rfl
theorem dX12_init_228 : decode cX12_init 228 = .ok (.bipush 15, 2) := decs_at DX12_init_120 15 rfl
theorem dX12_init_230 : decode cX12_init 230 = .ok (.bipush 15, 2) := decs_at DX12_init_120 16 rfl
theorem dX12_init_232 : decode cX12_init 232 = .ok (.iastore, 1) := decs_at DX12_init_120 17 rfl
theorem dX12_init_233 : decode cX12_init 233 = .ok (.putfield 65, 3) := decs_at DX12_init_120 18 rfl
theorem dX12_init_236 : decode cX12_init 236 = .ok (.aload_n 0, 1) := decs_at DX12_init_120 19 rfl
theorem dX12_init_237 : decode cX12_init 237 = .ok (.bipush 16, 2) := decs_at DX12_init_120 20 rfl
theorem dX12_init_239 : decode cX12_init 239 = .ok (.newarray .int, 2) := decs_at DX12_init_120 21 rfl
theorem dX12_init_241 : decode cX12_init 241 = .ok (.putfield 68, 3) := decs_at DX12_init_120 22 rfl
theorem dX12_init_244 : decode cX12_init 244 = .ok (.aload_n 0, 1) := decs_at DX12_init_120 23 rfl
theorem DX12_init_144 : decs cX12_init [(245, .bipush 6, 2), (247, .newarray .int, 2), (249, .putfield 71, 3), (252, .aload_n 0, 1), (253, .bipush 11, 2), (255, .newarray .boolean, 2), (257, .putfield 74, 3), (260, .aload_n 0, 1), (261, .bipush 8, 2), (263, .newarray .int, 2), (265, .putfield 78, 3), (268, .aload_n 0, 1), (269, .bipush 8, 2), (271, .newarray .int, 2), (273, .putfield 81, 3), (276, .aload_n 0, 1), (277, .bipush 8, 2), (279, .newarray .int, 2), (281, .putfield 84, 3), (284, .aload_n 0, 1), (285, .bipush 113, 2), (287, .newarray .int, 2), (289, .putfield 87, 3), (292, .aload_n 0, 1)] := by unfold decs; decide +kernel
theorem dX12_init_245 : decode cX12_init 245 = .ok (.bipush 6, 2) := decs_at DX12_init_144 0 rfl
theorem dX12_init_247 : decode cX12_init 247 = .ok (.newarray .int, 2) := decs_at DX12_init_144 1 rfl
theorem dX12_init_249 : decode cX12_init 249 = .ok (.putfield 71, 3) := decs_at DX12_init_144 2 rfl
theorem dX12_init_252 : decode cX12_init 252 = .ok (.aload_n 0, 1) := decs_at DX12_init_144 3 rfl
theorem dX12_init_253 : decode cX12_init 253 = .ok (.bipush 11, 2) := decs_at DX12_init_144 4 rfl
theorem dX12_init_255 : decode cX12_init 255 = .ok (.newarray .boolean, 2) := decs_at DX12_init_144 5 rfl
theorem dX12_init_257 : decode cX12_init 257 = .ok (.putfield 74, 3) := decs_at DX12_init_144 6 rfl
theorem dX12_init_260 : decode cX12_init 260 = .ok (.aload_n 0, 1) := decs_at DX12_init_144 7 rfl
theorem dX12_init_261 : decode cX12_init 261 = .ok (.bipush 8, 2) := decs_at DX12_init_144 8 rfl
theorem dX12_init_263 : decode cX12_init 263 = .ok (.newarray .int, 2) := decs_at DX12_init_144 9 rfl
theorem dX12_init_265 : decode cX12_init 265 = .ok (.putfield 78, 3) := decs_at DX12_init_144 10 rfl
theorem dX12_init_268 : decode cX12_init 268 = .ok (.aload_n 0, 1) := decs_at DX12_init_144 11 rfl
theorem dX12_init_269 : decode cX12_init 269 = .ok (.bipush 8, 2) := decs_at DX12_init_144 12 rfl
theorem dX12_init_271 : decode cX12_init 271 = .ok (.newarray .int, 2) := decs_at DX12_init_144 13 rfl
theorem dX12_init_273 : decode cX12_init 273 = .ok (.putfield 81, 3) := decs_at DX12_init_144 14 rfl
theorem dX12_init_276 : decode cX12_init 276 = .ok (.aload_n 0, 1) := decs_at DX12_init_144 15 rfl
theorem dX12_init_277 : decode cX12_init 277 = .ok (.bipush 8, 2) := decs_at DX12_init_144 16 rfl
theorem dX12_init_279 : decode cX12_init 279 = .ok (.newarray .int, 2) := decs_at DX12_init_144 17 rfl
theorem dX12_init_281 : decode cX12_init 281 = .ok (.putfield 84, 3) := decs_at DX12_init_144 18 rfl
theorem dX12_init_284 : decode cX12_init 284 = .ok (.aload_n 0, 1) := decs_at DX12_init_144 19 rfl
theorem dX12_init_285 : decode cX12_init 285 = .ok (.bipush 113, 2) := decs_at DX12_init_144 20 rfl
theorem dX12_init_287 : decode cX12_init 287 = .ok (.newarray .int, 2) := decs_at DX12_init_144 21 rfl
theorem dX12_init_289 : decode cX12_init 289 = .ok (.putfield 87, 3) := decs_at DX12_init_144 22 rfl
theorem dX12_init_292 : decode cX12_init 292 = .ok (.aload_n 0, 1) := decs_at DX12_init_144 23 rfl
theorem DX12_init_168 : decs cX12_init [(293, .bipush 113, 2), (295, .newarray .int, 2), (297, .putfield 90, 3), (300, .aload_n 0, 1), (301, .bipush 40, 2), (303, .newarray .long, 2), (305, .putfield 93, 3), (308, .aload_n 0, 1), (309, .bipush 40, 2), (311, .newarray .long, 2), (313, .putfield 97, 3), (316, .aload_n 0, 1), (317, .bipush 40, 2), (319, .newarray .boolean, 2), (321, .putfield 100, 3), (324, .aload_n 0, 1), (325, .bipush 40, 2), (327, .newarray .int, 2), (329, .putfield 103, 3), (332, .return_, 1)] := by unfold decs; decide +kernel
theorem dX12_init_293 : decode cX12_init 293 = .ok (.bipush 113, 2) := decs_at DX12_init_168 0 rfl
theorem dX12_init_295 : decode cX12_init 295 = .ok (.newarray .int, 2) := decs_at DX12_init_168 1 rfl
theorem dX12_init_297 : decode cX12_init 297 = .ok (.putfield 90, 3) := decs_at DX12_init_168 2 rfl
theorem dX12_init_300 : decode cX12_init 300 = .ok (.aload_n 0, 1) := decs_at DX12_init_168 3 rfl
theorem dX12_init_301 : decode cX12_init 301 = .ok (.bipush 40, 2) := decs_at DX12_init_168 4 rfl
theorem dX12_init_303 : decode cX12_init 303 = .ok (.newarray .long, 2) := decs_at DX12_init_168 5 rfl
theorem dX12_init_305 : decode cX12_init 305 = .ok (.putfield 93, 3) := decs_at DX12_init_168 6 rfl
theorem dX12_init_308 : decode cX12_init 308 = .ok (.aload_n 0, 1) := decs_at DX12_init_168 7 rfl
theorem dX12_init_309 : decode cX12_init 309 = .ok (.bipush 40, 2) := decs_at DX12_init_168 8 rfl
theorem dX12_init_311 : decode cX12_init 311 = .ok (.newarray .long, 2) := decs_at DX12_init_168 9 rfl
theorem dX12_init_313 : decode cX12_init 313 = .ok (.putfield 97, 3) := decs_at DX12_init_168 10 rfl
theorem dX12_init_316 : decode cX12_init 316 = .ok (.aload_n 0, 1) := decs_at DX12_init_168 11 rfl
theorem dX12_init_317 : decode cX12_init 317 = .ok (.bipush 40, 2) := decs_at DX12_init_168 12 rfl
theorem dX12_init_319 : decode cX12_init 319 = .ok (.newarray .boolean, 2) := decs_at DX12_init_168 13 rfl
theorem dX12_init_321 : decode cX12_init 321 = .ok (.putfield 100, 3) := decs_at DX12_init_168 14 rfl
theorem dX12_init_324 : decode cX12_init 324 = .ok (.aload_n 0, 1) := decs_at DX12_init_168 15 rfl
theorem dX12_init_325 : decode cX12_init 325 = .ok (.bipush 40, 2) := decs_at DX12_init_168 16 rfl
theorem dX12_init_327 : decode cX12_init 327 = .ok (.newarray .int, 2) := decs_at DX12_init_168 17 rfl
theorem dX12_init_329 : decode cX12_init 329 = .ok (.putfield 103, 3) := decs_at DX12_init_168 18 rfl
theorem dX12_init_332 : decode cX12_init 332 = .ok (.return_, 1) := decs_at DX12_init_168 19 rfl
