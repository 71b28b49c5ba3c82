/-! the judgement V: the machine at pc, with these locals, this stack and this world, comes to an end with Q -/
abbrev Pk : Type := Program × Launch × Env × Room × State × MethodId × Array Value × List Frame × Method × Code
abbrev Pk.l (K : Pk) : Launch := K.2.1
abbrev Pk.R (K : Pk) : Room := K.2.2.2.1
abbrev Pk.s (K : Pk) : State := K.2.2.2.2.1
abbrev Pk.m (K : Pk) : MethodId := K.2.2.2.2.2.1
abbrev Pk.args (K : Pk) : Array Value := K.2.2.2.2.2.2.1
abbrev Pk.below (K : Pk) : List Frame := K.2.2.2.2.2.2.2.1
abbrev Pk.meth (K : Pk) : Method := K.2.2.2.2.2.2.2.2.1
abbrev Pk.c (K : Pk) : Code := K.2.2.2.2.2.2.2.2.2
def Wk (K : Pk) (H : Heap) (locs : List Loc) (Q : State → Prop) (g : JFrame) : Prop := W K.1 K.l K.2.2.1 K.R K.s K.m K.args K.below K.meth K.c H locs 0 0 Q g
def Cx (K : Pk) (E : En) (A : Nat → Prop) (cc : ByteArray) (nL : Nat) (own : String) (ret : Option FieldType) (rm : Room) : Prop :=
  K.1.tables.exec = Jvm.exec ∧ K.c.code = cc ∧ K.c.maxLocals = nL ∧ K.s.vm.findClass own = some K.m.cls ∧ (∀ w ∈ gtb, w.before K.args K.s = true) ∧ va_K E.D classes (q_tys E) K.s ∧ (∀ q, K.s.heap.size ≤ q → A q) ∧ K.meth.sig.returnType = ret ∧ K.meth.locks = false ∧ K.R = rm ∧ q_ok E
def V (K : Pk) (E : En) (A : Nat → Prop) (nL : Nat) (Q : State → Prop) (pc : Nat) (lv : List (Nat × Value)) (st : List Value) (w : Wi) (z : Wj) : Prop :=
  ∀ (H : Heap) (locs : List Loc) (ls : Array Slot), lv_has ls nL lv → va_P E.D classes (wc E w z) H → va_D A (wc E w z) → va_S A K.s.heap H locs → Wk K H locs Q (F0 K.m pc ls st)
section RW
variable {K : Pk} {E : En} {A : Nat → Prop} {cc : ByteArray} {nL : Nat} {own : String} {ret : Option FieldType} {rm : Room} {Q : State → Prop} {pc : Nat} {lv : List (Nat × Value)} {st : List Value} {w : Wi} {z : Wj}
theorem v_w {w2 : Wi} (h : w = w2) (k : V K E A nL Q pc lv st w2 z) : V K E A nL Q pc lv st w z := h ▸ k
theorem v_z {z2 : Wj} (h : z = z2) (k : V K E A nL Q pc lv st w z2) : V K E A nL Q pc lv st w z := h ▸ k
theorem v_l {lv2 : List (Nat × Value)} (ks : List Nat) (h : lv_pick lv ks = lv2) (k : V K E A nL Q pc lv2 st w z) : V K E A nL Q pc lv st w z := fun H locs ls hl hP hD hS => k H locs ls (lv_sub hl ks h) hP hD hS
theorem v_n {α : Sort _} {x : α} {P : α → Prop} (k : ∀ y, y = x → P y) : P x := k x rfl
theorem v_i {x y : Int32} (h : x = y) (k : V K E A nL Q pc lv (.int y :: st) w z) : V K E A nL Q pc lv (.int x :: st) w z := h ▸ k
theorem v_j {x y : Int64} (h : x = y) (k : V K E A nL Q pc lv (.long y :: st) w z) : V K E A nL Q pc lv (.long x :: st) w z := h ▸ k
theorem v_iconst (C : Cx K E A cc nL own ret rm) {n : Int} {v : Int32} (d : decode cc pc = .ok (.iconst n, 1)) (hv : Int32.ofInt n = v) (k : V K E A nL Q (pc + 1) lv (.int v :: st) w z) : V K E A nL Q pc lv (st) w z := fun H locs ls hl hP hD hS => lv_iconst C.1 C.2.1 d hv (k H locs ls hl hP hD hS)
theorem v_bipush (C : Cx K E A cc nL own ret rm) {n : Int} {v : Int32} (d : decode cc pc = .ok (.bipush n, 2)) (hv : (Int8.ofInt n).toInt32 = v) (k : V K E A nL Q (pc + 2) lv (.int v :: st) w z) : V K E A nL Q pc lv (st) w z := fun H locs ls hl hP hD hS => lv_bipush C.1 C.2.1 d hv (k H locs ls hl hP hD hS)
theorem v_sipush (C : Cx K E A cc nL own ret rm) {n : Int} {v : Int32} (d : decode cc pc = .ok (.sipush n, 3)) (hv : (Int16.ofInt n).toInt32 = v) (k : V K E A nL Q (pc + 3) lv (.int v :: st) w z) : V K E A nL Q pc lv (st) w z := fun H locs ls hl hP hD hS => lv_sipush C.1 C.2.1 d hv (k H locs ls hl hP hD hS)
theorem v_lconst (C : Cx K E A cc nL own ret rm) {n : Fin 2} {v : Int64} (d : decode cc pc = .ok (.lconst n, 1)) (hv : Int64.ofNat (n : Nat) = v) (k : V K E A nL Q (pc + 1) lv (.long v :: st) w z) : V K E A nL Q pc lv (st) w z := fun H locs ls hl hP hD hS => lv_lconst C.1 C.2.1 d hv (k H locs ls hl hP hD hS)
theorem v_iload_n (C : Cx K E A cc nL own ret rm) {k : Fin 4} {x : Int32} (j : Nat) (d : decode cc pc = .ok (.iload_n k, 1)) (hj : lv[j]? = some ((k : Nat), .int x)) (k : V K E A nL Q (pc + 1) lv (.int x :: st) w z) : V K E A nL Q pc lv (st) w z := fun H locs ls hl hP hD hS => lv_iload_n C.1 C.2.1 d rfl (lv_at hl j hj) (k H locs ls hl hP hD hS)
theorem v_iload (C : Cx K E A cc nL own ret rm) {i : Nat} {x : Int32} (j : Nat) (d : decode cc pc = .ok (.iload i, 2)) (hj : lv[j]? = some (i, .int x)) (k : V K E A nL Q (pc + 2) lv (.int x :: st) w z) : V K E A nL Q pc lv (st) w z := fun H locs ls hl hP hD hS => lv_iload C.1 C.2.1 d (lv_at hl j hj) (k H locs ls hl hP hD hS)
theorem v_istore_n (C : Cx K E A cc nL own ret rm) {k : Fin 4} {i : Nat} {x : Int32} {lv2 : List (Nat × Value)} (d : decode cc pc = .ok (.istore_n k, 1)) (hi : (k : Nat) = i) (hn : i < nL) (hl2 : (i, Value.int x) :: lv.filter (fun q => !(q.1 == i) && !(q.1 + 1 == i && q.2.category == 2)) = lv2) (k : V K E A nL Q (pc + 1) lv2 st w z) : V K E A nL Q pc lv (.int x :: st) w z := fun H locs ls hl hP hD hS => lv_istore_n C.1 C.2.1 d hi hl hn hl2 (fun ls2 hl3 => k H locs ls2 hl3 hP hD hS)
theorem v_istore (C : Cx K E A cc nL own ret rm) {i : Nat} {x : Int32} {lv2 : List (Nat × Value)} (d : decode cc pc = .ok (.istore i, 2)) (hn : i < nL) (hl2 : (i, Value.int x) :: lv.filter (fun q => !(q.1 == i) && !(q.1 + 1 == i && q.2.category == 2)) = lv2) (k : V K E A nL Q (pc + 2) lv2 st w z) : V K E A nL Q pc lv (.int x :: st) w z := fun H locs ls hl hP hD hS => lv_istore C.1 C.2.1 d hl hn hl2 (fun ls2 hl3 => k H locs ls2 hl3 hP hD hS)
theorem v_lload_n (C : Cx K E A cc nL own ret rm) {k : Fin 4} {x : Int64} (j : Nat) (d : decode cc pc = .ok (.lload_n k, 1)) (hj : lv[j]? = some ((k : Nat), .long x)) (k : V K E A nL Q (pc + 1) lv (.long x :: st) w z) : V K E A nL Q pc lv (st) w z := fun H locs ls hl hP hD hS => lv_lload_n C.1 C.2.1 d rfl (lv_at hl j hj) (k H locs ls hl hP hD hS)
theorem v_lload (C : Cx K E A cc nL own ret rm) {i : Nat} {x : Int64} (j : Nat) (d : decode cc pc = .ok (.lload i, 2)) (hj : lv[j]? = some (i, .long x)) (k : V K E A nL Q (pc + 2) lv (.long x :: st) w z) : V K E A nL Q pc lv (st) w z := fun H locs ls hl hP hD hS => lv_lload C.1 C.2.1 d (lv_at hl j hj) (k H locs ls hl hP hD hS)
theorem v_lstore_n (C : Cx K E A cc nL own ret rm) {k : Fin 4} {i : Nat} {x : Int64} {lv2 : List (Nat × Value)} (d : decode cc pc = .ok (.lstore_n k, 1)) (hi : (k : Nat) = i) (hn : i + 1 < nL) (hl2 : (i, Value.long x) :: lv.filter (fun q => !(q.1 == i) && (!(q.1 == i + 1) && !(q.1 + 1 == i && q.2.category == 2))) = lv2) (k : V K E A nL Q (pc + 1) lv2 st w z) : V K E A nL Q pc lv (.long x :: st) w z := fun H locs ls hl hP hD hS => lv_lstore_n C.1 C.2.1 d hi hl hn hl2 (fun ls2 hl3 => k H locs ls2 hl3 hP hD hS)
theorem v_lstore (C : Cx K E A cc nL own ret rm) {i : Nat} {x : Int64} {lv2 : List (Nat × Value)} (d : decode cc pc = .ok (.lstore i, 2)) (hn : i + 1 < nL) (hl2 : (i, Value.long x) :: lv.filter (fun q => !(q.1 == i) && (!(q.1 == i + 1) && !(q.1 + 1 == i && q.2.category == 2))) = lv2) (k : V K E A nL Q (pc + 2) lv2 st w z) : V K E A nL Q pc lv (.long x :: st) w z := fun H locs ls hl hP hD hS => lv_lstore C.1 C.2.1 d hl hn hl2 (fun ls2 hl3 => k H locs ls2 hl3 hP hD hS)
theorem v_aload_n (C : Cx K E A cc nL own ret rm) {k : Fin 4} {x : Nat} (j : Nat) (d : decode cc pc = .ok (.aload_n k, 1)) (hj : lv[j]? = some ((k : Nat), .ref x)) (k : V K E A nL Q (pc + 1) lv (.ref x :: st) w z) : V K E A nL Q pc lv (st) w z := fun H locs ls hl hP hD hS => lv_aload_n C.1 C.2.1 d rfl (lv_at hl j hj) (k H locs ls hl hP hD hS)
theorem v_aload (C : Cx K E A cc nL own ret rm) {i : Nat} {x : Nat} (j : Nat) (d : decode cc pc = .ok (.aload i, 2)) (hj : lv[j]? = some (i, .ref x)) (k : V K E A nL Q (pc + 2) lv (.ref x :: st) w z) : V K E A nL Q pc lv (st) w z := fun H locs ls hl hP hD hS => lv_aload C.1 C.2.1 d (lv_at hl j hj) (k H locs ls hl hP hD hS)
theorem v_astore_n (C : Cx K E A cc nL own ret rm) {k : Fin 4} {i : Nat} {x : Nat} {lv2 : List (Nat × Value)} (d : decode cc pc = .ok (.astore_n k, 1)) (hi : (k : Nat) = i) (hn : i < nL) (hl2 : (i, Value.ref x) :: lv.filter (fun q => !(q.1 == i) && !(q.1 + 1 == i && q.2.category == 2)) = lv2) (k : V K E A nL Q (pc + 1) lv2 st w z) : V K E A nL Q pc lv (.ref x :: st) w z := fun H locs ls hl hP hD hS => lv_astore_n C.1 C.2.1 d hi hl hn hl2 (fun ls2 hl3 => k H locs ls2 hl3 hP hD hS)
theorem v_astore (C : Cx K E A cc nL own ret rm) {i : Nat} {x : Nat} {lv2 : List (Nat × Value)} (d : decode cc pc = .ok (.astore i, 2)) (hn : i < nL) (hl2 : (i, Value.ref x) :: lv.filter (fun q => !(q.1 == i) && !(q.1 + 1 == i && q.2.category == 2)) = lv2) (k : V K E A nL Q (pc + 2) lv2 st w z) : V K E A nL Q pc lv (.ref x :: st) w z := fun H locs ls hl hP hD hS => lv_astore C.1 C.2.1 d hl hn hl2 (fun ls2 hl3 => k H locs ls2 hl3 hP hD hS)
theorem v_iinc (C : Cx K E A cc nL own ret rm) {i : Nat} {n : Int} {x v : Int32} {lv2 : List (Nat × Value)} (j : Nat) (d : decode cc pc = .ok (.iinc i n, 3)) (hj : lv[j]? = some (i, .int x)) (hv : x + Int32.ofInt n = v) (hn : i < nL) (hl2 : (i, Value.int v) :: lv.filter (fun q => !(q.1 == i) && !(q.1 + 1 == i && q.2.category == 2)) = lv2) (k : V K E A nL Q (pc + 3) lv2 st w z) : V K E A nL Q pc lv st w z := fun H locs ls hl hP hD hS => lv_iinc C.1 C.2.1 d hl hj hv hn hl2 (fun ls2 hl3 => k H locs ls2 hl3 hP hD hS)
theorem v_iadd (C : Cx K E A cc nL own ret rm) {x y : Int32} (d : decode cc pc = .ok (.iadd, 1)) (k : V K E A nL Q (pc + 1) lv (.int (x + y) :: st) w z) : V K E A nL Q pc lv (.int y :: .int x :: st) w z := fun H locs ls hl hP hD hS => lv_iadd C.1 C.2.1 d (k H locs ls hl hP hD hS)
theorem v_isub (C : Cx K E A cc nL own ret rm) {x y : Int32} (d : decode cc pc = .ok (.isub, 1)) (k : V K E A nL Q (pc + 1) lv (.int (x - y) :: st) w z) : V K E A nL Q pc lv (.int y :: .int x :: st) w z := fun H locs ls hl hP hD hS => lv_isub C.1 C.2.1 d (k H locs ls hl hP hD hS)
theorem v_imul (C : Cx K E A cc nL own ret rm) {x y : Int32} (d : decode cc pc = .ok (.imul, 1)) (k : V K E A nL Q (pc + 1) lv (.int (x * y) :: st) w z) : V K E A nL Q pc lv (.int y :: .int x :: st) w z := fun H locs ls hl hP hD hS => lv_imul C.1 C.2.1 d (k H locs ls hl hP hD hS)
theorem v_iand (C : Cx K E A cc nL own ret rm) {x y : Int32} (d : decode cc pc = .ok (.iand, 1)) (k : V K E A nL Q (pc + 1) lv (.int (x &&& y) :: st) w z) : V K E A nL Q pc lv (.int y :: .int x :: st) w z := fun H locs ls hl hP hD hS => lv_iand C.1 C.2.1 d (k H locs ls hl hP hD hS)
theorem v_ior (C : Cx K E A cc nL own ret rm) {x y : Int32} (d : decode cc pc = .ok (.ior, 1)) (k : V K E A nL Q (pc + 1) lv (.int (x ||| y) :: st) w z) : V K E A nL Q pc lv (.int y :: .int x :: st) w z := fun H locs ls hl hP hD hS => lv_ior C.1 C.2.1 d (k H locs ls hl hP hD hS)
theorem v_ixor (C : Cx K E A cc nL own ret rm) {x y : Int32} (d : decode cc pc = .ok (.ixor, 1)) (k : V K E A nL Q (pc + 1) lv (.int (x ^^^ y) :: st) w z) : V K E A nL Q pc lv (.int y :: .int x :: st) w z := fun H locs ls hl hP hD hS => lv_ixor C.1 C.2.1 d (k H locs ls hl hP hD hS)
theorem v_ladd (C : Cx K E A cc nL own ret rm) {x y : Int64} (d : decode cc pc = .ok (.ladd, 1)) (k : V K E A nL Q (pc + 1) lv (.long (x + y) :: st) w z) : V K E A nL Q pc lv (.long y :: .long x :: st) w z := fun H locs ls hl hP hD hS => lv_ladd C.1 C.2.1 d (k H locs ls hl hP hD hS)
theorem v_lsub (C : Cx K E A cc nL own ret rm) {x y : Int64} (d : decode cc pc = .ok (.lsub, 1)) (k : V K E A nL Q (pc + 1) lv (.long (x - y) :: st) w z) : V K E A nL Q pc lv (.long y :: .long x :: st) w z := fun H locs ls hl hP hD hS => lv_lsub C.1 C.2.1 d (k H locs ls hl hP hD hS)
theorem v_lmul (C : Cx K E A cc nL own ret rm) {x y : Int64} (d : decode cc pc = .ok (.lmul, 1)) (k : V K E A nL Q (pc + 1) lv (.long (x * y) :: st) w z) : V K E A nL Q pc lv (.long y :: .long x :: st) w z := fun H locs ls hl hP hD hS => lv_lmul C.1 C.2.1 d (k H locs ls hl hP hD hS)
theorem v_land (C : Cx K E A cc nL own ret rm) {x y : Int64} (d : decode cc pc = .ok (.land, 1)) (k : V K E A nL Q (pc + 1) lv (.long (x &&& y) :: st) w z) : V K E A nL Q pc lv (.long y :: .long x :: st) w z := fun H locs ls hl hP hD hS => lv_land C.1 C.2.1 d (k H locs ls hl hP hD hS)
theorem v_lor (C : Cx K E A cc nL own ret rm) {x y : Int64} (d : decode cc pc = .ok (.lor, 1)) (k : V K E A nL Q (pc + 1) lv (.long (x ||| y) :: st) w z) : V K E A nL Q pc lv (.long y :: .long x :: st) w z := fun H locs ls hl hP hD hS => lv_lor C.1 C.2.1 d (k H locs ls hl hP hD hS)
theorem v_idiv (C : Cx K E A cc nL own ret rm) {x y : Int32} (d : decode cc pc = .ok (.idiv, 1)) (hne : ¬ y = 0) (k : V K E A nL Q (pc + 1) lv (.int (x / y) :: st) w z) : V K E A nL Q pc lv (.int y :: .int x :: st) w z := fun H locs ls hl hP hD hS => lv_idiv C.1 C.2.1 d hne (k H locs ls hl hP hD hS)
theorem v_irem (C : Cx K E A cc nL own ret rm) {x y : Int32} (d : decode cc pc = .ok (.irem, 1)) (hne : ¬ y = 0) (k : V K E A nL Q (pc + 1) lv (.int (x - x / y * y) :: st) w z) : V K E A nL Q pc lv (.int y :: .int x :: st) w z := fun H locs ls hl hP hD hS => lv_irem C.1 C.2.1 d hne (k H locs ls hl hP hD hS)
theorem v_ineg (C : Cx K E A cc nL own ret rm) {x : Int32} (d : decode cc pc = .ok (.ineg, 1)) (k : V K E A nL Q (pc + 1) lv (.int (-x) :: st) w z) : V K E A nL Q pc lv (.int x :: st) w z := fun H locs ls hl hP hD hS => lv_ineg C.1 C.2.1 d (k H locs ls hl hP hD hS)
theorem v_ishl (C : Cx K E A cc nL own ret rm) {x y : Int32} (d : decode cc pc = .ok (.ishl, 1)) (k : V K E A nL Q (pc + 1) lv (.int (x <<< (y &&& 31)) :: st) w z) : V K E A nL Q pc lv (.int y :: .int x :: st) w z := fun H locs ls hl hP hD hS => lv_ishl C.1 C.2.1 d (k H locs ls hl hP hD hS)
theorem v_ishr (C : Cx K E A cc nL own ret rm) {x y : Int32} (d : decode cc pc = .ok (.ishr, 1)) (k : V K E A nL Q (pc + 1) lv (.int (x >>> (y &&& 31)) :: st) w z) : V K E A nL Q pc lv (.int y :: .int x :: st) w z := fun H locs ls hl hP hD hS => lv_ishr C.1 C.2.1 d (k H locs ls hl hP hD hS)
theorem v_iushr (C : Cx K E A cc nL own ret rm) {x y : Int32} (d : decode cc pc = .ok (.iushr, 1)) (k : V K E A nL Q (pc + 1) lv (.int (x.toUInt32 >>> (y.toUInt32 &&& Int32.toUInt32 31)).toInt32 :: st) w z) : V K E A nL Q pc lv (.int y :: .int x :: st) w z := fun H locs ls hl hP hD hS => lv_iushr C.1 C.2.1 d rfl (k H locs ls hl hP hD hS)
theorem v_lshl (C : Cx K E A cc nL own ret rm) {x : Int64} {y : Int32} (d : decode cc pc = .ok (.lshl, 1)) (k : V K E A nL Q (pc + 1) lv (.long (x <<< (y.toInt64 &&& 63)) :: st) w z) : V K E A nL Q pc lv (.int y :: .long x :: st) w z := fun H locs ls hl hP hD hS => lv_lshl C.1 C.2.1 d rfl (k H locs ls hl hP hD hS)
theorem v_lshr (C : Cx K E A cc nL own ret rm) {x : Int64} {y : Int32} (d : decode cc pc = .ok (.lshr, 1)) (k : V K E A nL Q (pc + 1) lv (.long (x >>> (y.toInt64 &&& 63)) :: st) w z) : V K E A nL Q pc lv (.int y :: .long x :: st) w z := fun H locs ls hl hP hD hS => lv_lshr C.1 C.2.1 d rfl (k H locs ls hl hP hD hS)
theorem v_i2l (C : Cx K E A cc nL own ret rm) {x : Int32} (d : decode cc pc = .ok (.i2l, 1)) (k : V K E A nL Q (pc + 1) lv (.long x.toInt64 :: st) w z) : V K E A nL Q pc lv (.int x :: st) w z := fun H locs ls hl hP hD hS => lv_i2l C.1 C.2.1 d rfl (k H locs ls hl hP hD hS)
theorem v_lcmp (C : Cx K E A cc nL own ret rm) {x y : Int64} (d : decode cc pc = .ok (.lcmp, 1)) (k : V K E A nL Q (pc + 1) lv (.int (lg_cmp x y) :: st) w z) : V K E A nL Q pc lv (.long y :: .long x :: st) w z := fun H locs ls hl hP hD hS => W.lcmp C.1 C.2.1 d (k H locs ls hl hP hD hS)
theorem v_dup (C : Cx K E A cc nL own ret rm) {x : Value} (d : decode cc pc = .ok (.dup, 1)) (h : x.category = 1) (k : V K E A nL Q (pc + 1) lv (x :: x :: st) w z) : V K E A nL Q pc lv (x :: st) w z := fun H locs ls hl hP hD hS => lv_dup C.1 C.2.1 d h (k H locs ls hl hP hD hS)
theorem v_pop (C : Cx K E A cc nL own ret rm) {x : Value} (d : decode cc pc = .ok (.pop, 1)) (h : x.category = 1) (k : V K E A nL Q (pc + 1) lv (st) w z) : V K E A nL Q pc lv (x :: st) w z := fun H locs ls hl hP hD hS => lv_pop C.1 C.2.1 d h (k H locs ls hl hP hD hS)
theorem v_dup2 (C : Cx K E A cc nL own ret rm) {x y : Value} (d : decode cc pc = .ok (.dup2, 1)) (h : x.category = 1) (h2 : y.category = 1) (k : V K E A nL Q (pc + 1) lv (x :: y :: x :: y :: st) w z) : V K E A nL Q pc lv (x :: y :: st) w z := fun H locs ls hl hP hD hS => lv_dup2_11 C.1 C.2.1 d h h2 (k H locs ls hl hP hD hS)
theorem v_goto (C : Cx K E A cc nL own ret rm) {off : Int} (tgt : Nat) (d : decode cc pc = .ok (.goto off, 3)) (ht : (pc : Int) + off = (tgt : Int)) (k : V K E A nL Q tgt lv st w z) : V K E A nL Q pc lv st w z := fun H locs ls hl hP hD hS => lv_goto C.1 C.2.1 d ht (k H locs ls hl hP hD hS)
theorem v_if_eq (C : Cx K E A cc nL own ret rm) {x : Int32} {off : Int} (tgt : Nat) (d : decode cc pc = .ok (.ifCond .eq off, 3)) (ht : (pc : Int) + off = (tgt : Int)) (kt : x = 0 → V K E A nL Q tgt lv st w z) (kf : ¬ x = 0 → V K E A nL Q (pc + 3) lv st w z) : V K E A nL Q pc lv (.int x :: st) w z := fun H locs ls hl hP hD hS => lv_if_eq C.1 C.2.1 d ht (fun h => kt h H locs ls hl hP hD hS) (fun h => kf h H locs ls hl hP hD hS)
theorem v_ic_eq (C : Cx K E A cc nL own ret rm) {x y : Int32} {off : Int} (tgt : Nat) (d : decode cc pc = .ok (.if_icmp .eq off, 3)) (ht : (pc : Int) + off = (tgt : Int)) (kt : x = y → V K E A nL Q tgt lv st w z) (kf : ¬ x = y → V K E A nL Q (pc + 3) lv st w z) : V K E A nL Q pc lv (.int y :: .int x :: st) w z := fun H locs ls hl hP hD hS => lv_icmp_eq C.1 C.2.1 d ht (fun h => kt h H locs ls hl hP hD hS) (fun h => kf h H locs ls hl hP hD hS)
theorem v_if_ne (C : Cx K E A cc nL own ret rm) {x : Int32} {off : Int} (tgt : Nat) (d : decode cc pc = .ok (.ifCond .ne off, 3)) (ht : (pc : Int) + off = (tgt : Int)) (kt : ¬ x = 0 → V K E A nL Q tgt lv st w z) (kf : x = 0 → V K E A nL Q (pc + 3) lv st w z) : V K E A nL Q pc lv (.int x :: st) w z := fun H locs ls hl hP hD hS => lv_if_ne C.1 C.2.1 d ht (fun h => kt h H locs ls hl hP hD hS) (fun h => kf h H locs ls hl hP hD hS)
theorem v_ic_ne (C : Cx K E A cc nL own ret rm) {x y : Int32} {off : Int} (tgt : Nat) (d : decode cc pc = .ok (.if_icmp .ne off, 3)) (ht : (pc : Int) + off = (tgt : Int)) (kt : ¬ x = y → V K E A nL Q tgt lv st w z) (kf : x = y → V K E A nL Q (pc + 3) lv st w z) : V K E A nL Q pc lv (.int y :: .int x :: st) w z := fun H locs ls hl hP hD hS => lv_icmp_ne C.1 C.2.1 d ht (fun h => kt h H locs ls hl hP hD hS) (fun h => kf h H locs ls hl hP hD hS)
theorem v_if_lt (C : Cx K E A cc nL own ret rm) {x : Int32} {off : Int} (tgt : Nat) (d : decode cc pc = .ok (.ifCond .lt off, 3)) (ht : (pc : Int) + off = (tgt : Int)) (kt : x < 0 → V K E A nL Q tgt lv st w z) (kf : ¬ x < 0 → V K E A nL Q (pc + 3) lv st w z) : V K E A nL Q pc lv (.int x :: st) w z := fun H locs ls hl hP hD hS => lv_if_lt C.1 C.2.1 d ht (fun h => kt h H locs ls hl hP hD hS) (fun h => kf h H locs ls hl hP hD hS)
theorem v_ic_lt (C : Cx K E A cc nL own ret rm) {x y : Int32} {off : Int} (tgt : Nat) (d : decode cc pc = .ok (.if_icmp .lt off, 3)) (ht : (pc : Int) + off = (tgt : Int)) (kt : x < y → V K E A nL Q tgt lv st w z) (kf : ¬ x < y → V K E A nL Q (pc + 3) lv st w z) : V K E A nL Q pc lv (.int y :: .int x :: st) w z := fun H locs ls hl hP hD hS => lv_icmp_lt C.1 C.2.1 d ht (fun h => kt h H locs ls hl hP hD hS) (fun h => kf h H locs ls hl hP hD hS)
theorem v_if_ge (C : Cx K E A cc nL own ret rm) {x : Int32} {off : Int} (tgt : Nat) (d : decode cc pc = .ok (.ifCond .ge off, 3)) (ht : (pc : Int) + off = (tgt : Int)) (kt : 0 ≤ x → V K E A nL Q tgt lv st w z) (kf : ¬ 0 ≤ x → V K E A nL Q (pc + 3) lv st w z) : V K E A nL Q pc lv (.int x :: st) w z := fun H locs ls hl hP hD hS => lv_if_ge C.1 C.2.1 d ht (fun h => kt h H locs ls hl hP hD hS) (fun h => kf h H locs ls hl hP hD hS)
theorem v_ic_ge (C : Cx K E A cc nL own ret rm) {x y : Int32} {off : Int} (tgt : Nat) (d : decode cc pc = .ok (.if_icmp .ge off, 3)) (ht : (pc : Int) + off = (tgt : Int)) (kt : y ≤ x → V K E A nL Q tgt lv st w z) (kf : ¬ y ≤ x → V K E A nL Q (pc + 3) lv st w z) : V K E A nL Q pc lv (.int y :: .int x :: st) w z := fun H locs ls hl hP hD hS => lv_icmp_ge C.1 C.2.1 d ht (fun h => kt h H locs ls hl hP hD hS) (fun h => kf h H locs ls hl hP hD hS)
theorem v_if_gt (C : Cx K E A cc nL own ret rm) {x : Int32} {off : Int} (tgt : Nat) (d : decode cc pc = .ok (.ifCond .gt off, 3)) (ht : (pc : Int) + off = (tgt : Int)) (kt : 0 < x → V K E A nL Q tgt lv st w z) (kf : ¬ 0 < x → V K E A nL Q (pc + 3) lv st w z) : V K E A nL Q pc lv (.int x :: st) w z := fun H locs ls hl hP hD hS => lv_if_gt C.1 C.2.1 d ht (fun h => kt h H locs ls hl hP hD hS) (fun h => kf h H locs ls hl hP hD hS)
theorem v_ic_gt (C : Cx K E A cc nL own ret rm) {x y : Int32} {off : Int} (tgt : Nat) (d : decode cc pc = .ok (.if_icmp .gt off, 3)) (ht : (pc : Int) + off = (tgt : Int)) (kt : y < x → V K E A nL Q tgt lv st w z) (kf : ¬ y < x → V K E A nL Q (pc + 3) lv st w z) : V K E A nL Q pc lv (.int y :: .int x :: st) w z := fun H locs ls hl hP hD hS => lv_icmp_gt C.1 C.2.1 d ht (fun h => kt h H locs ls hl hP hD hS) (fun h => kf h H locs ls hl hP hD hS)
theorem v_if_le (C : Cx K E A cc nL own ret rm) {x : Int32} {off : Int} (tgt : Nat) (d : decode cc pc = .ok (.ifCond .le off, 3)) (ht : (pc : Int) + off = (tgt : Int)) (kt : x ≤ 0 → V K E A nL Q tgt lv st w z) (kf : ¬ x ≤ 0 → V K E A nL Q (pc + 3) lv st w z) : V K E A nL Q pc lv (.int x :: st) w z := fun H locs ls hl hP hD hS => lv_if_le C.1 C.2.1 d ht (fun h => kt h H locs ls hl hP hD hS) (fun h => kf h H locs ls hl hP hD hS)
theorem v_ic_le (C : Cx K E A cc nL own ret rm) {x y : Int32} {off : Int} (tgt : Nat) (d : decode cc pc = .ok (.if_icmp .le off, 3)) (ht : (pc : Int) + off = (tgt : Int)) (kt : x ≤ y → V K E A nL Q tgt lv st w z) (kf : ¬ x ≤ y → V K E A nL Q (pc + 3) lv st w z) : V K E A nL Q pc lv (.int y :: .int x :: st) w z := fun H locs ls hl hP hD hS => lv_icmp_le C.1 C.2.1 d ht (fun h => kt h H locs ls hl hP hD hS) (fun h => kf h H locs ls hl hP hD hS)
theorem v_tin (C : Cx K E A cc nL own ret rm) {dflt lo hi : Int} {offs : Array Int} {len : Nat} {x : Int32} (off : Int) (tgt : Nat) (d : decode cc pc = .ok (.tableswitch dflt lo hi offs, len)) (h1 : ¬ x.toInt < lo) (h2 : ¬ hi < x.toInt) (ho : offs[(x.toInt - lo).toNat]? = some off) (ht : (pc : Int) + off = (tgt : Int)) (k : V K E A nL Q tgt lv st w z) : V K E A nL Q pc lv (.int x :: st) w z := fun H locs ls hl hP hD hS => lv_tableIn C.1 C.2.1 d h1 h2 ho ht (k H locs ls hl hP hD hS)
theorem v_tout (C : Cx K E A cc nL own ret rm) {dflt lo hi : Int} {offs : Array Int} {len : Nat} {x : Int32} (tgt : Nat) (d : decode cc pc = .ok (.tableswitch dflt lo hi offs, len)) (h : x.toInt < lo ∨ hi < x.toInt) (ht : (pc : Int) + dflt = (tgt : Int)) (k : V K E A nL Q tgt lv st w z) : V K E A nL Q pc lv (.int x :: st) w z := fun H locs ls hl hP hD hS => lv_tableOut C.1 C.2.1 d h ht (k H locs ls hl hP hD hS)
theorem v_ldc (C : Cx K E A cc nL own ret rm) {index : Nat} {v : Int32} (hc : Cond.constant own index v ∈ gtb) (d : decode cc pc = .ok (.ldc index, 2)) (k : V K E A nL Q (pc + 2) lv (.int v :: st) w z) : V K E A nL Q pc lv st w z := fun H locs ls hl hP hD hS => lv_ldc C.1 C.2.1 C.2.2.2.1 (C.2.2.2.2.1 _ hc) d (k H locs ls hl hP hD hS)
theorem v_ldcw (C : Cx K E A cc nL own ret rm) {index : Nat} {v : Int32} (hc : Cond.constant own index v ∈ gtb) (d : decode cc pc = .ok (.ldc_w index, 3)) (k : V K E A nL Q (pc + 3) lv (.int v :: st) w z) : V K E A nL Q pc lv st w z := fun H locs ls hl hP hD hS => lv_ldcw C.1 C.2.1 C.2.2.2.1 (C.2.2.2.2.1 _ hc) d (k H locs ls hl hP hD hS)
theorem v_ldc2 (C : Cx K E A cc nL own ret rm) {index : Nat} {v : Int64} (hc : Cond.constantLong own index v ∈ gtb) (d : decode cc pc = .ok (.ldc2_w index, 3)) (k : V K E A nL Q (pc + 3) lv (.long v :: st) w z) : V K E A nL Q pc lv st w z := fun H locs ls hl hP hD hS => lv_ldc2 C.1 C.2.1 C.2.2.2.1 (C.2.2.2.2.1 _ hc) d (k H locs ls hl hP hD hS)
/-- the class table's row of a tag -/
def q_cl (t : Nat) (C : String) (T : u_T) : Prop := t < 13 ∧ classes[t]? = some (C, T, q_N t) ∧ ∀ w ∈ u_ws C T (q_N t), w ∈ gtb
def q_ty (T : u_T) (ty : Nat → FieldType) (N : Nat) : Prop := (∀ k, k < N → parseFieldDescriptor (T k).2.2.1 = some (ty k)) ∧ ∀ a, a < N → ∀ b, b < N → a ≠ b → (T a).2.1 ≠ (T b).2.1
theorem q_fs {E : En} {w : Wi} {z : Wj} {t a k : Nat} {v : Value} (hk : k < q_N t) (hv : q_fv E w z t a k = v) : ((List.range (q_N t)).map (q_fv E w z t a))[k]? = some v := by
  rw [List.getElem?_map, List.getElem?_range hk, Option.map_some, hv]
/-- getfield: field k of the object of tag t, instance a -/
theorem v_get (C : Cx K E A cc nL own ret rm) {CC : String} {T : u_T} {index : Nat} (t a k : Nat) {v : Value} (hm : (t, a) ∈ E.U) (hcl : q_cl t CC T) (hk : k < q_N t) (hl : Cond.fieldLink own index (T k).1 (T k).2.1 (T k).2.2.1 ∈ gtb) (hv : q_fv E w z t a k = v) (d : decode cc pc = .ok (.getfield index, 3)) (kk : V K E A nL Q (pc + 3) lv (v :: st) w z) : V K E A nL Q pc lv (.ref (E.ad t a) :: st) w z := by
  intro H locs ls hls hP hD hS
  obtain ⟨i, -, hi⟩ := wc_at (w := w) (z := z) hm
  rw [show q_e E w z t a = .inr (t, (List.range (q_N t)).map (q_fv E w z t a)) from if_pos hcl.1] at hi
  exact va_get (D := E.D) (ci := t) (C := CC) (T := T) (N := q_N t) C.1 C.2.1 C.2.2.2.2.1 hcl.2.2 C.2.2.2.1 C.2.2.2.2.2.1 hP i hi hcl.2.1 k hk (C.2.2.2.2.1 _ hl) (fun _ h9 => h9) (q_fs hk hv) d (kk H locs ls hls hP hD hS)
/-- putfield of an int -/
theorem v_put (C : Cx K E A cc nL own ret rm) {CC : String} {T : u_T} {tyf : Nat → FieldType} {index : Nat} (t a k : Nat) {v : Int32} (hm : (t, a) ∈ E.U) (hcl : q_cl t CC T) (hty : q_ty T tyf (q_N t)) (hk : k < q_N t) (h0 : (q_kd t k).1 = 0 ∧ (T k).2.2.2 = false) (hl : Cond.fieldLink own index (T k).1 (T k).2.1 (T k).2.2.1 ∈ gtb) (hn : narrow (tyf k) (.int v) = .int v) (hf : fits (tyf k) (.int v) = true) (d : decode cc pc = .ok (.putfield index, 3)) (kk : V K E A nL Q (pc + 3) lv st (wS w (100 + 80 * t + k) a (fun _ => v)) z) : V K E A nL Q pc lv (.int v :: .ref (E.ad t a) :: st) w z := by
  intro H locs ls hls hP hD hS
  obtain ⟨i, hu, hi⟩ := wc_at (w := w) (z := z) hm
  rw [show q_e E w z t a = .inr (t, (List.range (q_N t)).map (q_fv E w z t a)) from if_pos hcl.1] at hi
  refine va_put (D := E.D) (ci := t) (ty := tyf k) (C := CC) (T := T) (N := q_N t) C.1 C.2.1 C.2.2.2.2.1 hcl.2.2 tyf hty.1 hty.2 C.2.2.2.1 C.2.2.2.2.2.1 hP hD hS i hi hcl.2.1 k hk (C.2.2.2.2.1 _ hl) (fun _ h9 => h9) h0.2 (hty.1 k hk) hn hf (by simpa using hk) d (fun H1 locs1 hP1 hD1 hS1 => ?_)
  rw [wc_putI C.2.2.2.2.2.2.2.2.2.2 hu hcl.1 hk h0.1] at hP1 hD1
  exact kk H1 locs1 ls hls hP1 hD1 hS1
theorem v_putJ (C : Cx K E A cc nL own ret rm) {CC : String} {T : u_T} {tyf : Nat → FieldType} {index : Nat} (t a k : Nat) {v : Int64} (hm : (t, a) ∈ E.U) (hcl : q_cl t CC T) (hty : q_ty T tyf (q_N t)) (hk : k < q_N t) (h0 : (q_kd t k).1 = 1 ∧ (T k).2.2.2 = false) (hl : Cond.fieldLink own index (T k).1 (T k).2.1 (T k).2.2.1 ∈ gtb) (hn : narrow (tyf k) (.long v) = .long v) (hf : fits (tyf k) (.long v) = true) (d : decode cc pc = .ok (.putfield index, 3)) (kk : V K E A nL Q (pc + 3) lv st w (wS z (100 + 80 * t + k) a (fun _ => v))) : V K E A nL Q pc lv (.long v :: .ref (E.ad t a) :: st) w z := by
  intro H locs ls hls hP hD hS
  obtain ⟨i, hu, hi⟩ := wc_at (w := w) (z := z) hm
  rw [show q_e E w z t a = .inr (t, (List.range (q_N t)).map (q_fv E w z t a)) from if_pos hcl.1] at hi
  refine va_put (D := E.D) (ci := t) (ty := tyf k) (C := CC) (T := T) (N := q_N t) C.1 C.2.1 C.2.2.2.2.1 hcl.2.2 tyf hty.1 hty.2 C.2.2.2.1 C.2.2.2.2.2.1 hP hD hS i hi hcl.2.1 k hk (C.2.2.2.2.1 _ hl) (fun _ h9 => h9) h0.2 (hty.1 k hk) hn hf (by simpa using hk) d (fun H1 locs1 hP1 hD1 hS1 => ?_)
  rw [wc_putJ C.2.2.2.2.2.2.2.2.2.2 hu hcl.1 hk h0.1] at hP1 hD1
  exact kk H1 locs1 ls hls hP1 hD1 hS1
def q_a (t k n : Nat) : Prop := 13 ≤ t ∧ q_ak t = k ∧ q_ln t = n
theorem v_iald (C : Cx K E A cc nL own ret rm) (t a : Nat) {n : Nat} {i : Int32} (hm : (t, a) ∈ E.U) (ha : q_a t 0 n) (hin : vp_in i n) (d : decode cc pc = .ok (.iaload, 1)) (kk : V K E A nL Q (pc + 1) lv (.int (w t a i.toNatClampNeg) :: st) w z) : V K E A nL Q pc lv (.int i :: .ref (E.ad t a) :: st) w z := by
  intro H locs ls hls hP hD hS
  obtain ⟨j, -, hj⟩ := wc_at (w := w) (z := z) hm
  rw [show q_e E w z t a = .inl (E.cI, n, .inl (w t a)) by simp only [q_e, if_neg (Nat.not_lt.mpr ha.1), q_ar, ha.2.1, ha.2.2]] at hj
  exact va_iald C.1 C.2.1 C.2.2.2.2.2.1 hP j 0 hj rfl hin d (kk H locs ls hls hP hD hS)
theorem v_zald (C : Cx K E A cc nL own ret rm) (t a : Nat) {n : Nat} {i : Int32} (hm : (t, a) ∈ E.U) (ha : q_a t 1 n) (hin : vp_in i n) (d : decode cc pc = .ok (.baload, 1)) (kk : V K E A nL Q (pc + 1) lv (.int (w t a i.toNatClampNeg) :: st) w z) : V K E A nL Q pc lv (.int i :: .ref (E.ad t a) :: st) w z := by
  intro H locs ls hls hP hD hS
  obtain ⟨j, -, hj⟩ := wc_at (w := w) (z := z) hm
  rw [show q_e E w z t a = .inl (E.cZ, n, .inl (w t a)) by simp only [q_e, if_neg (Nat.not_lt.mpr ha.1), q_ar, ha.2.1, ha.2.2]] at hj
  exact va_zald C.1 C.2.1 C.2.2.2.2.2.1 hP j 1 hj rfl hin d (kk H locs ls hls hP hD hS)
theorem v_lald (C : Cx K E A cc nL own ret rm) (t a : Nat) {n : Nat} {i : Int32} (hm : (t, a) ∈ E.U) (ha : q_a t 2 n) (hin : vp_in i n) (d : decode cc pc = .ok (.laload, 1)) (kk : V K E A nL Q (pc + 1) lv (.long (z t a i.toNatClampNeg) :: st) w z) : V K E A nL Q pc lv (.int i :: .ref (E.ad t a) :: st) w z := by
  intro H locs ls hls hP hD hS
  obtain ⟨j, -, hj⟩ := wc_at (w := w) (z := z) hm
  rw [show q_e E w z t a = .inl (E.cJ, n, .inr (.inl (z t a))) by simp only [q_e, if_neg (Nat.not_lt.mpr ha.1), q_ar, ha.2.1, ha.2.2]] at hj
  exact va_lald C.1 C.2.1 C.2.2.2.2.2.1 hP j 2 hj rfl hin d (kk H locs ls hls hP hD hS)
theorem v_iast (C : Cx K E A cc nL own ret rm) (t a : Nat) {n : Nat} {i : Int32} {x : Int32} (hm : (t, a) ∈ E.U) (ha : q_a t 0 n) (hin : vp_in i n) (d : decode cc pc = .ok (.iastore, 1)) (kk : V K E A nL Q (pc + 1) lv st (wS w t a (upd (w t a) i.toNatClampNeg x)) z) : V K E A nL Q pc lv (.int x :: .int i :: .ref (E.ad t a) :: st) w z := by
  intro H locs ls hls hP hD hS
  obtain ⟨j, hu, hj⟩ := wc_at (w := w) (z := z) hm
  rw [show q_e E w z t a = .inl (E.cI, n, .inl (w t a)) by simp only [q_e, if_neg (Nat.not_lt.mpr ha.1), q_ar, ha.2.1, ha.2.2]] at hj
  refine va_iast C.1 C.2.1 C.2.2.2.2.2.1 hP hD hS j 0 hj rfl hin d (fun H1 locs1 hP1 hD1 hS1 => ?_)
  rw [wc_rowI (f := (upd (w t a) i.toNatClampNeg x)) C.2.2.2.2.2.2.2.2.2.2 hu (Nat.not_lt.mpr ha.1) (by simp only [q_ar, ha.2.1, ha.2.2, wS_s])] at hP1 hD1
  exact kk H1 locs1 ls hls hP1 hD1 hS1
theorem v_zast (C : Cx K E A cc nL own ret rm) (t a : Nat) {n : Nat} {i : Int32} {x : Int32} (hm : (t, a) ∈ E.U) (ha : q_a t 1 n) (hin : vp_in i n) (d : decode cc pc = .ok (.bastore, 1)) (kk : V K E A nL Q (pc + 1) lv st (wS w t a (upd (w t a) i.toNatClampNeg (vp_nar .boolean x))) z) : V K E A nL Q pc lv (.int x :: .int i :: .ref (E.ad t a) :: st) w z := by
  intro H locs ls hls hP hD hS
  obtain ⟨j, hu, hj⟩ := wc_at (w := w) (z := z) hm
  rw [show q_e E w z t a = .inl (E.cZ, n, .inl (w t a)) by simp only [q_e, if_neg (Nat.not_lt.mpr ha.1), q_ar, ha.2.1, ha.2.2]] at hj
  refine va_zast C.1 C.2.1 C.2.2.2.2.2.1 hP hD hS j 1 hj rfl hin d (fun H1 locs1 hP1 hD1 hS1 => ?_)
  rw [wc_rowI (f := (upd (w t a) i.toNatClampNeg (vp_nar .boolean x))) C.2.2.2.2.2.2.2.2.2.2 hu (Nat.not_lt.mpr ha.1) (by simp only [q_ar, ha.2.1, ha.2.2, wS_s])] at hP1 hD1
  exact kk H1 locs1 ls hls hP1 hD1 hS1
theorem v_last (C : Cx K E A cc nL own ret rm) (t a : Nat) {n : Nat} {i : Int32} {x : Int64} (hm : (t, a) ∈ E.U) (ha : q_a t 2 n) (hin : vp_in i n) (d : decode cc pc = .ok (.lastore, 1)) (kk : V K E A nL Q (pc + 1) lv st w (wS z t a (vp_updL (z t a) i.toNatClampNeg x))) : V K E A nL Q pc lv (.long x :: .int i :: .ref (E.ad t a) :: st) w z := by
  intro H locs ls hls hP hD hS
  obtain ⟨j, hu, hj⟩ := wc_at (w := w) (z := z) hm
  rw [show q_e E w z t a = .inl (E.cJ, n, .inr (.inl (z t a))) by simp only [q_e, if_neg (Nat.not_lt.mpr ha.1), q_ar, ha.2.1, ha.2.2]] at hj
  refine va_last C.1 C.2.1 C.2.2.2.2.2.1 hP hD hS j 2 hj rfl hin d (fun H1 locs1 hP1 hD1 hS1 => ?_)
  rw [wc_rowJ (f := (vp_updL (z t a) i.toNatClampNeg x)) C.2.2.2.2.2.2.2.2.2.2 hu (Nat.not_lt.mpr ha.1) (by simp only [q_ar, ha.2.1, ha.2.2, wS_s])] at hP1 hD1
  exact kk H1 locs1 ls hls hP1 hD1 hS1
theorem v_mmax (C : Cx K E A cc nL own ret rm) {index : Nat} {x y : Int32} (hl : Cond.methodLink own index Lib.Math.max.name ∈ gtb) (hs : Cond.static Lib.Math.max.name ∈ gtb) (hi : Cond.initialized "java/lang/Math" ∈ gtb) (hc : Cond.code Lib.Math.max.name Lib.Math.max.code 2 (some .int) ∈ gtb) (hR : 1 ≤ rm.frames ∧ (st.map fun v => v.category).sum + 13 ≤ rm.locals) (d : decode cc pc = .ok (.invokestatic index, 3)) (kk : V K E A nL Q (pc + 3) lv (.int (if x < y then y else x) :: st) w z) : V K E A nL Q pc lv (.int y :: .int x :: st) w z := by
  intro H locs ls hls hP hD hS
  have hR2 := C.2.2.2.2.2.2.2.2.2.1
  exact va_mmax C.1 C.2.1 (C.2.2.1.trans hls.1.symm) C.2.2.2.1 (C.2.2.2.2.1 _ hl) (C.2.2.2.2.1 _ hs) (C.2.2.2.2.1 _ hi) (C.2.2.2.2.1 _ hc) (by rw [hR2]; exact hR.1) (by rw [hR2]; exact hR.2) (Nat.zero_le _) (Nat.zero_le _) d (kk H locs ls hls hP hD hS)
theorem v_mmin (C : Cx K E A cc nL own ret rm) {index : Nat} {x y : Int32} (hl : Cond.methodLink own index Lib.Math.min.name ∈ gtb) (hs : Cond.static Lib.Math.min.name ∈ gtb) (hi : Cond.initialized "java/lang/Math" ∈ gtb) (hc : Cond.code Lib.Math.min.name Lib.Math.min.code 2 (some .int) ∈ gtb) (hR : 1 ≤ rm.frames ∧ (st.map fun v => v.category).sum + 13 ≤ rm.locals) (d : decode cc pc = .ok (.invokestatic index, 3)) (kk : V K E A nL Q (pc + 3) lv (.int (if y < x then y else x) :: st) w z) : V K E A nL Q pc lv (.int y :: .int x :: st) w z := by
  intro H locs ls hls hP hD hS
  have hR2 := C.2.2.2.2.2.2.2.2.2.1
  exact va_mmin C.1 C.2.1 (C.2.2.1.trans hls.1.symm) C.2.2.2.1 (C.2.2.2.2.1 _ hl) (C.2.2.2.2.1 _ hs) (C.2.2.2.2.1 _ hi) (C.2.2.2.2.1 _ hc) (by rw [hR2]; exact hR.1) (by rw [hR2]; exact hR.2) (Nat.zero_le _) (Nat.zero_le _) d (kk H locs ls hls hP hD hS)
theorem v_mabs (C : Cx K E A cc nL own ret rm) {index : Nat} {x : Int32} (hl : Cond.methodLink own index Lib.Math.abs.name ∈ gtb) (hs : Cond.static Lib.Math.abs.name ∈ gtb) (hi : Cond.initialized "java/lang/Math" ∈ gtb) (hc : Cond.code Lib.Math.abs.name Lib.Math.abs.code 1 (some .int) ∈ gtb) (hR : 1 ≤ rm.frames ∧ (st.map fun v => v.category).sum + 13 ≤ rm.locals) (d : decode cc pc = .ok (.invokestatic index, 3)) (kk : V K E A nL Q (pc + 3) lv (.int (if 0 ≤ x then x else 0 - x) :: st) w z) : V K E A nL Q pc lv (.int x :: st) w z := by
  intro H locs ls hls hP hD hS
  have hR2 := C.2.2.2.2.2.2.2.2.2.1
  exact va_mabs C.1 C.2.1 (C.2.2.1.trans hls.1.symm) C.2.2.2.1 (C.2.2.2.2.1 _ hl) (C.2.2.2.2.1 _ hs) (C.2.2.2.2.1 _ hi) (C.2.2.2.2.1 _ hc) (by rw [hR2]; exact hR.1) (by rw [hR2]; exact hR.2) (Nat.zero_le _) (Nat.zero_le _) d (kk H locs ls hls hP hD hS)
theorem v_copyi (C : Cx K E A cc nL own ret rm) {index : Nat} (t0 a0 t a : Nat) {n0 n1 : Nat} {sp dp n : Int32} (hl : Cond.methodLink own index arraycopyName ∈ gtb) (hnat : Cond.native arraycopyName ∈ gtb) (hs : Cond.static arraycopyName ∈ gtb) (hi : Cond.initialized "java/lang/System" ∈ gtb) (hm0 : (t0, a0) ∈ E.U) (ha0 : q_a t0 0 n0) (hm : (t, a) ∈ E.U) (ha : q_a t 0 n1) (h1 : ¬ sp < 0) (h2 : ¬ dp < 0) (h3 : ¬ n < 0) (h4 : sp.toNatClampNeg + n.toNatClampNeg ≤ n0) (h5 : dp.toNatClampNeg + n.toNatClampNeg ≤ n1) (hR : 1 ≤ rm.frames ∧ (st.map fun v => v.category).sum + (nativeFrameWords "java/lang/System" "arraycopy" 5 + 11) ≤ rm.locals) (d : decode cc pc = .ok (.invokestatic index, 3)) (kk : V K E A nL Q (pc + 3) lv st (wS w t a (va_cpy (w t0 a0) (w t a) sp.toNatClampNeg dp.toNatClampNeg n.toNatClampNeg)) z) : V K E A nL Q pc lv (.int n :: .int dp :: .ref (E.ad t a) :: .int sp :: .ref (E.ad t0 a0) :: st) w z := by
  intro H locs ls hls hP hD hS
  have hR2 := C.2.2.2.2.2.2.2.2.2.1
  obtain ⟨j0, -, hj0⟩ := wc_at (w := w) (z := z) hm0
  obtain ⟨j, hu, hj⟩ := wc_at (w := w) (z := z) hm
  rw [show q_e E w z t0 a0 = .inl (E.cI, n0, .inl (w t0 a0)) by simp only [q_e, if_neg (Nat.not_lt.mpr ha0.1), q_ar, ha0.2.1, ha0.2.2]] at hj0
  rw [show q_e E w z t a = .inl (E.cI, n1, .inl (w t a)) by simp only [q_e, if_neg (Nat.not_lt.mpr ha.1), q_ar, ha.2.1, ha.2.2]] at hj
  refine va_copyi C.1 C.2.1 (C.2.2.1.trans hls.1.symm) C.2.2.2.1 (C.2.2.2.2.1 _ hl) (C.2.2.2.2.1 _ hnat) (C.2.2.2.2.1 _ hs) (C.2.2.2.2.1 _ hi) C.2.2.2.2.2.1 hP hD hS j0 j 0 0 hj0 hj rfl rfl rfl h1 h2 h3 h4 h5 (fun _ _ => rfl) (by rw [hR2]; exact hR.1) (by rw [hR2]; exact hR.2) d (fun H1 locs1 hP1 hD1 hS1 => ?_)
  rw [wc_rowI (f := va_cpy (w t0 a0) (w t a) sp.toNatClampNeg dp.toNatClampNeg n.toNatClampNeg) C.2.2.2.2.2.2.2.2.2.2 hu (Nat.not_lt.mpr ha.1) (by simp only [q_ar, ha.2.1, ha.2.2, wS_s])] at hP1 hD1
  exact kk H1 locs1 ls hls hP1 hD1 hS1
end RW
abbrev WW : Type := Wi × Wj
def q_Pre (E : En) (w : Wi) (z : Wj) (As : List Value) (sz : Nat) : Array Value → State → Prop := va_Pc As (fun U => U.heap.size = sz ∧ va_P E.D classes (wc E w z) U.heap ∧ va_K E.D classes (q_tys E) U ∧ va_D (fun _ => True) (wc E w z))
def q_B (E : En) (A : Nat → Prop) (u : WW) (t : State) : Prop := va_P E.D classes (wc E u.1 u.2) t.heap ∧ va_K E.D classes (q_tys E) t ∧ va_D A (wc E u.1 u.2)
/-- what a call needs of a method: its code, its room -/
abbrev Md : Type := MethodName × ByteArray × Nat × Option FieldType × Room
def Md.w (M : Md) : List Cond := .code M.1 M.2.1 M.2.2.1 M.2.2.2.1 :: gtb
def Md.ok (M : Md) : Prop := plainName M.1.cls = true ∧ M.1.cls ≠ "java/lang/invoke/MethodHandle" ∧ M.1.cls ≠ "java/lang/invoke/VarHandle" ∧ Cond.initialized M.1.cls ∈ gtb ∧ Cond.code M.1 M.2.1 M.2.2.1 M.2.2.2.1 ∈ gtb ∧ M.2.2.2.2.cells = 0 ∧ M.2.2.2.2.slots = 0
def CtI (M : Md) (E : En) (As : List Value) (w : Wi) (z : Wj) (post : Int32 → WW → Prop) : Prop := ∀ (l : Launch) (sz : Nat), Met l M.1 M.w M.2.2.2.2 (q_Pre E w z As sz) (va_Qi post (q_B E (va_A (wc E w z) sz)) (va_A (wc E w z) sz)) 0 0 (va_A (wc E w z) sz)
def CtJ (M : Md) (E : En) (As : List Value) (w : Wi) (z : Wj) (post : Int64 → WW → Prop) : Prop := ∀ (l : Launch) (sz : Nat), Met l M.1 M.w M.2.2.2.2 (q_Pre E w z As sz) (va_Ql post (q_B E (va_A (wc E w z) sz)) (va_A (wc E w z) sz)) 0 0 (va_A (wc E w z) sz)
def CtV (M : Md) (E : En) (As : List Value) (w : Wi) (z : Wj) (post : WW → Prop) : Prop := ∀ (l : Launch) (sz : Nat), Met l M.1 M.w M.2.2.2.2 (q_Pre E w z As sz) (va_Qv post (q_B E (va_A (wc E w z) sz)) (va_A (wc E w z) sz)) 0 0 (va_A (wc E w z) sz)
def QI (K : Pk) (E : En) (A : Nat → Prop) (post : Int32 → WW → Prop) : State → Prop := MQ K.below (va_Qi post (q_B E A) A) K.args K.s 0 0 A
def QJ (K : Pk) (E : En) (A : Nat → Prop) (post : Int64 → WW → Prop) : State → Prop := MQ K.below (va_Ql post (q_B E A) A) K.args K.s 0 0 A
def QV (K : Pk) (E : En) (A : Nat → Prop) (post : WW → Prop) : State → Prop := MQ K.below (va_Qv post (q_B E A) A) K.args K.s 0 0 A
theorem ctI_of {M : Md} {E : En} {As : List Value} {w : Wi} {z : Wj} {post : Int32 → WW → Prop} {lv : List (Nat × Value)} (hE : q_ok E) (hM : M.ok) (hn : (lg_sl As).length ≤ M.2.2.1) (hlv : lv_args 0 As = lv) (h : ∀ (K : Pk) (A : Nat → Prop), Cx K E A M.2.1 M.2.2.1 M.1.cls M.2.2.2.1 M.2.2.2.2 → V K E A M.2.2.1 (QI K E A post) 0 lv [] w z) : CtI M E As w z post := by
  intro l sz
  refine Met.ofW (cc := M.2.1) (maxL := M.2.2.1) (ret := M.2.2.2.1) hM.1 rfl ?_
  intro p e s m args below meth c s₁ B hml hv
  obtain ⟨rfl, hsz, hP, hK, hD0⟩ := hv
  have hts := atoms_spec (ws := M.w) B.pre
  have hown : s.vm.findClass M.1.cls = some m.cls := findClass_of_methodNamed B.named
  subst hsz
  have hD := hD0.self (sz := s.heap.size)
  have hl := lv_entry As (n := M.2.2.1) hn
  rw [lg_entry_eq]
  rw [hlv] at hl
  exact h (p, l, e, (headSpec M.w M.2.2.2.2).room, s, m, As.toArray, below, meth, c) (va_A (wc E w z) s.heap.size) ⟨B.exec, B.bytes, hml, hown, fun w h => hts w (List.mem_cons_of_mem _ h), hK, fun q h => Or.inr h, B.returns, B.notSynchronized, rfl, hE⟩ s.heap [] _ hl hP hD va_S.rf
theorem ctJ_of {M : Md} {E : En} {As : List Value} {w : Wi} {z : Wj} {post : Int64 → WW → Prop} {lv : List (Nat × Value)} (hE : q_ok E) (hM : M.ok) (hn : (lg_sl As).length ≤ M.2.2.1) (hlv : lv_args 0 As = lv) (h : ∀ (K : Pk) (A : Nat → Prop), Cx K E A M.2.1 M.2.2.1 M.1.cls M.2.2.2.1 M.2.2.2.2 → V K E A M.2.2.1 (QJ K E A post) 0 lv [] w z) : CtJ M E As w z post := by
  intro l sz
  refine Met.ofW (cc := M.2.1) (maxL := M.2.2.1) (ret := M.2.2.2.1) hM.1 rfl ?_
  intro p e s m args below meth c s₁ B hml hv
  obtain ⟨rfl, hsz, hP, hK, hD0⟩ := hv
  have hts := atoms_spec (ws := M.w) B.pre
  have hown : s.vm.findClass M.1.cls = some m.cls := findClass_of_methodNamed B.named
  subst hsz
  have hD := hD0.self (sz := s.heap.size)
  have hl := lv_entry As (n := M.2.2.1) hn
  rw [lg_entry_eq]
  rw [hlv] at hl
  exact h (p, l, e, (headSpec M.w M.2.2.2.2).room, s, m, As.toArray, below, meth, c) (va_A (wc E w z) s.heap.size) ⟨B.exec, B.bytes, hml, hown, fun w h => hts w (List.mem_cons_of_mem _ h), hK, fun q h => Or.inr h, B.returns, B.notSynchronized, rfl, hE⟩ s.heap [] _ hl hP hD va_S.rf
theorem ctV_of {M : Md} {E : En} {As : List Value} {w : Wi} {z : Wj} {post : WW → Prop} {lv : List (Nat × Value)} (hE : q_ok E) (hM : M.ok) (hn : (lg_sl As).length ≤ M.2.2.1) (hlv : lv_args 0 As = lv) (h : ∀ (K : Pk) (A : Nat → Prop), Cx K E A M.2.1 M.2.2.1 M.1.cls M.2.2.2.1 M.2.2.2.2 → V K E A M.2.2.1 (QV K E A post) 0 lv [] w z) : CtV M E As w z post := by
  intro l sz
  refine Met.ofW (cc := M.2.1) (maxL := M.2.2.1) (ret := M.2.2.2.1) hM.1 rfl ?_
  intro p e s m args below meth c s₁ B hml hv
  obtain ⟨rfl, hsz, hP, hK, hD0⟩ := hv
  have hts := atoms_spec (ws := M.w) B.pre
  have hown : s.vm.findClass M.1.cls = some m.cls := findClass_of_methodNamed B.named
  subst hsz
  have hD := hD0.self (sz := s.heap.size)
  have hl := lv_entry As (n := M.2.2.1) hn
  rw [lg_entry_eq]
  rw [hlv] at hl
  exact h (p, l, e, (headSpec M.w M.2.2.2.2).room, s, m, As.toArray, below, meth, c) (va_A (wc E w z) s.heap.size) ⟨B.exec, B.bytes, hml, hown, fun w h => hts w (List.mem_cons_of_mem _ h), hK, fun q h => Or.inr h, B.returns, B.notSynchronized, rfl, hE⟩ s.heap [] _ hl hP hD va_S.rf
section RT
variable {K : Pk} {E : En} {A : Nat → Prop} {cc : ByteArray} {nL : Nat} {own : String} {ret : Option FieldType} {rm : Room} {Q : State → Prop} {pc : Nat} {lv : List (Nat × Value)} {st : List Value} {w : Wi} {z : Wj}
theorem v_iret (C : Cx K E A cc nL own (some .int) rm) {v : Int32} {post : Int32 → WW → Prop} (d : decode cc pc = .ok (.ireturn, 1)) (h : post v (w, z)) : V K E A nL (QI K E A post) pc lv [.int v] w z := by
  intro H locs ls hls hP hD hS
  exact W.iret C.1 C.2.1 C.2.2.2.2.2.2.2.1 (fun t ht hW => ⟨⟨v, (w, z), rfl, h, by rw [ht]; exact hP, va_K.moved hW.alike C.2.2.2.2.2.1, hD⟩, hS.F ht⟩) hS.2.2 d C.2.2.2.2.2.2.2.2.1
theorem v_zret (C : Cx K E A cc nL own (some .boolean) rm) {v : Int32} {post : Int32 → WW → Prop} (d : decode cc pc = .ok (.ireturn, 1)) (hn : narrow .boolean (.int v) = .int v) (h : post v (w, z)) : V K E A nL (QI K E A post) pc lv [.int v] w z := by
  intro H locs ls hls hP hD hS
  exact W.zret C.1 C.2.1 C.2.2.2.2.2.2.2.1 hn (fun t ht hW => ⟨⟨v, (w, z), rfl, h, by rw [ht]; exact hP, va_K.moved hW.alike C.2.2.2.2.2.1, hD⟩, hS.F ht⟩) hS.2.2 d C.2.2.2.2.2.2.2.2.1
theorem v_lret (C : Cx K E A cc nL own (some .long) rm) {v : Int64} {post : Int64 → WW → Prop} (d : decode cc pc = .ok (.lreturn, 1)) (h : post v (w, z)) : V K E A nL (QJ K E A post) pc lv [.long v] w z := by
  intro H locs ls hls hP hD hS
  exact W.lret C.1 C.2.1 C.2.2.2.2.2.2.2.1 (fun t ht hW => ⟨⟨v, (w, z), rfl, h, by rw [ht]; exact hP, va_K.moved hW.alike C.2.2.2.2.2.1, hD⟩, hS.F ht⟩) hS.2.2 d C.2.2.2.2.2.2.2.2.1
theorem v_vret (C : Cx K E A cc nL own none rm) {post : WW → Prop} (d : decode cc pc = .ok (.return_, 1)) (h : post (w, z)) : V K E A nL (QV K E A post) pc lv [] w z := by
  intro H locs ls hls hP hD hS
  exact W.vret C.1 C.2.1 C.2.2.2.2.2.2.2.1 (fun t ht hW => ⟨⟨(w, z), rfl, h, by rw [ht]; exact hP, va_K.moved hW.alike C.2.2.2.2.2.1, hD⟩, hS.F ht⟩) hS.2.2 d C.2.2.2.2.2.2.2.2.1
theorem q_good {M : Md} (hM : M.ok) : GoodIn gtb M.w := by
  intro w hw
  have : w ∈ gtb := (List.mem_cons.mp hw).elim (fun h => h ▸ hM.2.2.2.2.1) id
  exact ⟨this, good_of_word (List.mem_filter.mp this).2⟩
theorem q_blind (E : En) (w : Wi) (z : Wj) (As : List Value) (sz : Nat) : FrameBlind (q_Pre E w z As sz) := fun a U g mk q => by
  obtain ⟨q0, q1, qP, qK, qD⟩ := q
  exact ⟨q0, q1, qP, va_K.moved (u := U) (U := U.calling g mk a) (Vm.Alike.refl U.vm) qK, qD⟩
theorem q_cb {M : Md} {Ts : List Cond} {args : Array Value} {s : State} {R : Room} {index : Nat} {n : Nat} (hM : M.ok) (ht : ∀ w ∈ gtb, w.before args s = true) (hl : Cond.methodLink own index M.1 ∈ gtb) (hd : (parseMethodDescriptor M.1.desc).map (fun d => d.parameters.length) = some n) (hR : M.2.2.2.2.frames + 1 ≤ R.frames ∧ 8 + (M.2.2.1 + 11) + M.2.2.2.2.locals ≤ R.locals) : CallB R s args own index M.1 M.2.1 M.2.2.1 M.2.2.2.1 M.w M.2.2.2.2 0 0 n :=
  callB_of n ht (q_good hM) rfl hM.2.2.2.2.2.1 hM.2.2.2.2.2.2 (ht _ hM.2.2.2.1) (ht _ hl) ⟨hM.2.1, hM.2.2.1, hd⟩ hR
theorem q_free {H : Heap} {locs : List Loc} (C : Cx K E A cc nL own ret rm) (hD : va_D A (wc E w z)) (hS : va_S A K.s.heap H locs) : ∀ q, va_A (wc E w z) H.size q → A q := by
  intro q h
  rcases h with ⟨k, e, h⟩ | h
  · exact hD.2 k (q, e) h
  · exact C.2.2.2.2.2.2.1 q (Nat.le_trans hS.1 h)
theorem v_vI (C : Cx K E A cc nL own ret rm) {M : Md} {index : Nat} {rest : List Value} {post : Int32 → WW → Prop} (t a : Nat) (As : List Value) (n : Nat) (hc : CtI M E (.ref (E.ad t a) :: As) w z post) (hM : M.ok) (hl : Cond.methodLink own index M.1 ∈ gtb) (hi : Cond.instanceMethod M.1 ∈ gtb) (hse : Cond.selects M.1.cls M.1 M.1 ∈ gtb) (hd : (parseMethodDescriptor M.1.desc).map (fun d => d.parameters.length) = some n) (hn : As.length = n) (hR : M.2.2.2.2.frames + 1 ≤ rm.frames ∧ 8 + (M.2.2.1 + 11) + M.2.2.2.2.locals ≤ rm.locals) (hm : (t, a) ∈ E.U) {T : u_T} (hcl : q_cl t M.1.cls T) (hst : st = As.reverse ++ .ref (E.ad t a) :: rest) (hr : (rest.map fun v => v.category).sum ≤ 8) (d : decode cc pc = .ok (.invokevirtual index, 3)) (kk : ∀ (r : Int32) (u : Wi) (v : Wj), post r (u, v) → V K E A nL Q (pc + 3) lv (.int r :: rest) u v) : V K E A nL Q pc lv st w z := by
  intro H locs ls hls hP hD hS
  have hR2 := C.2.2.2.2.2.2.2.2.2.1
  obtain ⟨j, -, hj⟩ := wc_at (w := w) (z := z) hm
  rw [show q_e E w z t a = .inr (t, (List.range (q_N t)).map (q_fv E w z t a)) from if_pos hcl.1] at hj
  have hF := q_free C hD hS
  refine va_calli (va_runV (Ts := gtb) (As := As) (rest := rest) (C := M.1.cls) ⟨C.1, C.2.1, C.2.2.1, C.2.2.2.1, C.2.2.2.2.1⟩ (hc K.l H.size) ⟨q_cb (Ts := gtb) hM C.2.2.2.2.1 hl hd (by rw [hR2]; exact hR), C.2.2.2.2.1 _ hi, C.2.2.2.2.1 _ hse⟩ ⟨q_blind _ _ _ _ _, va_recv C.2.2.2.2.2.1 hP hcl.2.1 hj, fun U hU hW => ⟨rfl, by rw [hU], by rw [hU]; exact hP, va_K.moved hW.alike C.2.2.2.2.2.1, hD.weaken (fun _ _ _ _ => trivial)⟩⟩ rfl hn hls.1 hst (lv_room hr) d ⟨Nat.zero_le _, Nat.zero_le _⟩) hS (fun q _ h => hF q h) hF (fun r u t' H1 locs1 ht hvm hw hB hz1 hk1 hS1 => ?_)
  obtain ⟨hP1, hK1, hD1⟩ := hB
  rw [ht] at hP1
  exact kk r u.1 u.2 hw H1 locs1 ls hls hP1 (hD1.weaken (fun _ _ _ h => hF _ h)) hS1
theorem v_sI (C : Cx K E A cc nL own ret rm) {M : Md} {index : Nat} {rest : List Value} {post : Int32 → WW → Prop} (As : List Value) (n : Nat) (hc : CtI M E As w z post) (hM : M.ok) (hl : Cond.methodLink own index M.1 ∈ gtb) (hi : Cond.static M.1 ∈ gtb) (hd : (parseMethodDescriptor M.1.desc).map (fun d => d.parameters.length) = some n) (hn : As.length = n) (hR : M.2.2.2.2.frames + 1 ≤ rm.frames ∧ 8 + (M.2.2.1 + 11) + M.2.2.2.2.locals ≤ rm.locals) (hst : st = As.reverse ++ rest) (hr : (rest.map fun v => v.category).sum ≤ 8) (d : decode cc pc = .ok (.invokestatic index, 3)) (kk : ∀ (r : Int32) (u : Wi) (v : Wj), post r (u, v) → V K E A nL Q (pc + 3) lv (.int r :: rest) u v) : V K E A nL Q pc lv st w z := by
  intro H locs ls hls hP hD hS
  have hR2 := C.2.2.2.2.2.2.2.2.2.1
  have hF := q_free C hD hS
  refine va_calli (va_runS (Ts := gtb) (As := As) (rest := rest) ⟨C.1, C.2.1, C.2.2.1, C.2.2.2.1, C.2.2.2.2.1⟩ (hc K.l H.size) ⟨q_cb (Ts := gtb) hM C.2.2.2.2.1 hl hd (by rw [hR2]; exact hR), C.2.2.2.2.1 _ hi⟩ ⟨q_blind _ _ _ _ _, fun U hU hW => ⟨rfl, by rw [hU], by rw [hU]; exact hP, va_K.moved hW.alike C.2.2.2.2.2.1, hD.weaken (fun _ _ _ _ => trivial)⟩⟩ rfl hn hls.1 hst (lv_room hr) d ⟨Nat.zero_le _, Nat.zero_le _⟩) hS (fun q _ h => hF q h) hF (fun r u t' H1 locs1 ht hvm hw hB hz1 hk1 hS1 => ?_)
  obtain ⟨hP1, hK1, hD1⟩ := hB
  rw [ht] at hP1
  exact kk r u.1 u.2 hw H1 locs1 ls hls hP1 (hD1.weaken (fun _ _ _ h => hF _ h)) hS1
theorem v_vJ (C : Cx K E A cc nL own ret rm) {M : Md} {index : Nat} {rest : List Value} {post : Int64 → WW → Prop} (t a : Nat) (As : List Value) (n : Nat) (hc : CtJ M E (.ref (E.ad t a) :: As) w z post) (hM : M.ok) (hl : Cond.methodLink own index M.1 ∈ gtb) (hi : Cond.instanceMethod M.1 ∈ gtb) (hse : Cond.selects M.1.cls M.1 M.1 ∈ gtb) (hd : (parseMethodDescriptor M.1.desc).map (fun d => d.parameters.length) = some n) (hn : As.length = n) (hR : M.2.2.2.2.frames + 1 ≤ rm.frames ∧ 8 + (M.2.2.1 + 11) + M.2.2.2.2.locals ≤ rm.locals) (hm : (t, a) ∈ E.U) {T : u_T} (hcl : q_cl t M.1.cls T) (hst : st = As.reverse ++ .ref (E.ad t a) :: rest) (hr : (rest.map fun v => v.category).sum ≤ 8) (d : decode cc pc = .ok (.invokevirtual index, 3)) (kk : ∀ (r : Int64) (u : Wi) (v : Wj), post r (u, v) → V K E A nL Q (pc + 3) lv (.long r :: rest) u v) : V K E A nL Q pc lv st w z := by
  intro H locs ls hls hP hD hS
  have hR2 := C.2.2.2.2.2.2.2.2.2.1
  obtain ⟨j, -, hj⟩ := wc_at (w := w) (z := z) hm
  rw [show q_e E w z t a = .inr (t, (List.range (q_N t)).map (q_fv E w z t a)) from if_pos hcl.1] at hj
  have hF := q_free C hD hS
  refine va_calll (va_runV (Ts := gtb) (As := As) (rest := rest) (C := M.1.cls) ⟨C.1, C.2.1, C.2.2.1, C.2.2.2.1, C.2.2.2.2.1⟩ (hc K.l H.size) ⟨q_cb (Ts := gtb) hM C.2.2.2.2.1 hl hd (by rw [hR2]; exact hR), C.2.2.2.2.1 _ hi, C.2.2.2.2.1 _ hse⟩ ⟨q_blind _ _ _ _ _, va_recv C.2.2.2.2.2.1 hP hcl.2.1 hj, fun U hU hW => ⟨rfl, by rw [hU], by rw [hU]; exact hP, va_K.moved hW.alike C.2.2.2.2.2.1, hD.weaken (fun _ _ _ _ => trivial)⟩⟩ rfl hn hls.1 hst (lv_room hr) d ⟨Nat.zero_le _, Nat.zero_le _⟩) hS (fun q _ h => hF q h) hF (fun r u t' H1 locs1 ht hvm hw hB hz1 hk1 hS1 => ?_)
  obtain ⟨hP1, hK1, hD1⟩ := hB
  rw [ht] at hP1
  exact kk r u.1 u.2 hw H1 locs1 ls hls hP1 (hD1.weaken (fun _ _ _ h => hF _ h)) hS1
theorem v_sJ (C : Cx K E A cc nL own ret rm) {M : Md} {index : Nat} {rest : List Value} {post : Int64 → WW → Prop} (As : List Value) (n : Nat) (hc : CtJ M E As w z post) (hM : M.ok) (hl : Cond.methodLink own index M.1 ∈ gtb) (hi : Cond.static M.1 ∈ gtb) (hd : (parseMethodDescriptor M.1.desc).map (fun d => d.parameters.length) = some n) (hn : As.length = n) (hR : M.2.2.2.2.frames + 1 ≤ rm.frames ∧ 8 + (M.2.2.1 + 11) + M.2.2.2.2.locals ≤ rm.locals) (hst : st = As.reverse ++ rest) (hr : (rest.map fun v => v.category).sum ≤ 8) (d : decode cc pc = .ok (.invokestatic index, 3)) (kk : ∀ (r : Int64) (u : Wi) (v : Wj), post r (u, v) → V K E A nL Q (pc + 3) lv (.long r :: rest) u v) : V K E A nL Q pc lv st w z := by
  intro H locs ls hls hP hD hS
  have hR2 := C.2.2.2.2.2.2.2.2.2.1
  have hF := q_free C hD hS
  refine va_calll (va_runS (Ts := gtb) (As := As) (rest := rest) ⟨C.1, C.2.1, C.2.2.1, C.2.2.2.1, C.2.2.2.2.1⟩ (hc K.l H.size) ⟨q_cb (Ts := gtb) hM C.2.2.2.2.1 hl hd (by rw [hR2]; exact hR), C.2.2.2.2.1 _ hi⟩ ⟨q_blind _ _ _ _ _, fun U hU hW => ⟨rfl, by rw [hU], by rw [hU]; exact hP, va_K.moved hW.alike C.2.2.2.2.2.1, hD.weaken (fun _ _ _ _ => trivial)⟩⟩ rfl hn hls.1 hst (lv_room hr) d ⟨Nat.zero_le _, Nat.zero_le _⟩) hS (fun q _ h => hF q h) hF (fun r u t' H1 locs1 ht hvm hw hB hz1 hk1 hS1 => ?_)
  obtain ⟨hP1, hK1, hD1⟩ := hB
  rw [ht] at hP1
  exact kk r u.1 u.2 hw H1 locs1 ls hls hP1 (hD1.weaken (fun _ _ _ h => hF _ h)) hS1
theorem v_vV (C : Cx K E A cc nL own ret rm) {M : Md} {index : Nat} {rest : List Value} {post : WW → Prop} (t a : Nat) (As : List Value) (n : Nat) (hc : CtV M E (.ref (E.ad t a) :: As) w z post) (hM : M.ok) (hl : Cond.methodLink own index M.1 ∈ gtb) (hi : Cond.instanceMethod M.1 ∈ gtb) (hse : Cond.selects M.1.cls M.1 M.1 ∈ gtb) (hd : (parseMethodDescriptor M.1.desc).map (fun d => d.parameters.length) = some n) (hn : As.length = n) (hR : M.2.2.2.2.frames + 1 ≤ rm.frames ∧ 8 + (M.2.2.1 + 11) + M.2.2.2.2.locals ≤ rm.locals) (hm : (t, a) ∈ E.U) {T : u_T} (hcl : q_cl t M.1.cls T) (hst : st = As.reverse ++ .ref (E.ad t a) :: rest) (hr : (rest.map fun v => v.category).sum ≤ 8) (d : decode cc pc = .ok (.invokevirtual index, 3)) (kk : ∀ (u : Wi) (v : Wj), post (u, v) → V K E A nL Q (pc + 3) lv (rest) u v) : V K E A nL Q pc lv st w z := by
  intro H locs ls hls hP hD hS
  have hR2 := C.2.2.2.2.2.2.2.2.2.1
  obtain ⟨j, -, hj⟩ := wc_at (w := w) (z := z) hm
  rw [show q_e E w z t a = .inr (t, (List.range (q_N t)).map (q_fv E w z t a)) from if_pos hcl.1] at hj
  have hF := q_free C hD hS
  refine va_callv (va_runV (Ts := gtb) (As := As) (rest := rest) (C := M.1.cls) ⟨C.1, C.2.1, C.2.2.1, C.2.2.2.1, C.2.2.2.2.1⟩ (hc K.l H.size) ⟨q_cb (Ts := gtb) hM C.2.2.2.2.1 hl hd (by rw [hR2]; exact hR), C.2.2.2.2.1 _ hi, C.2.2.2.2.1 _ hse⟩ ⟨q_blind _ _ _ _ _, va_recv C.2.2.2.2.2.1 hP hcl.2.1 hj, fun U hU hW => ⟨rfl, by rw [hU], by rw [hU]; exact hP, va_K.moved hW.alike C.2.2.2.2.2.1, hD.weaken (fun _ _ _ _ => trivial)⟩⟩ rfl hn hls.1 hst (lv_room hr) d ⟨Nat.zero_le _, Nat.zero_le _⟩) hS (fun q _ h => hF q h) hF (fun u t' H1 locs1 ht hvm hw hB hz1 hk1 hS1 => ?_)
  obtain ⟨hP1, hK1, hD1⟩ := hB
  rw [ht] at hP1
  exact kk u.1 u.2 hw H1 locs1 ls hls hP1 (hD1.weaken (fun _ _ _ h => hF _ h)) hS1
theorem v_sV (C : Cx K E A cc nL own ret rm) {M : Md} {index : Nat} {rest : List Value} {post : WW → Prop} (As : List Value) (n : Nat) (hc : CtV M E As w z post) (hM : M.ok) (hl : Cond.methodLink own index M.1 ∈ gtb) (hi : Cond.static M.1 ∈ gtb) (hd : (parseMethodDescriptor M.1.desc).map (fun d => d.parameters.length) = some n) (hn : As.length = n) (hR : M.2.2.2.2.frames + 1 ≤ rm.frames ∧ 8 + (M.2.2.1 + 11) + M.2.2.2.2.locals ≤ rm.locals) (hst : st = As.reverse ++ rest) (hr : (rest.map fun v => v.category).sum ≤ 8) (d : decode cc pc = .ok (.invokestatic index, 3)) (kk : ∀ (u : Wi) (v : Wj), post (u, v) → V K E A nL Q (pc + 3) lv (rest) u v) : V K E A nL Q pc lv st w z := by
  intro H locs ls hls hP hD hS
  have hR2 := C.2.2.2.2.2.2.2.2.2.1
  have hF := q_free C hD hS
  refine va_callv (va_runS (Ts := gtb) (As := As) (rest := rest) ⟨C.1, C.2.1, C.2.2.1, C.2.2.2.1, C.2.2.2.2.1⟩ (hc K.l H.size) ⟨q_cb (Ts := gtb) hM C.2.2.2.2.1 hl hd (by rw [hR2]; exact hR), C.2.2.2.2.1 _ hi⟩ ⟨q_blind _ _ _ _ _, fun U hU hW => ⟨rfl, by rw [hU], by rw [hU]; exact hP, va_K.moved hW.alike C.2.2.2.2.2.1, hD.weaken (fun _ _ _ _ => trivial)⟩⟩ rfl hn hls.1 hst (lv_room hr) d ⟨Nat.zero_le _, Nat.zero_le _⟩) hS (fun q _ h => hF q h) hF (fun u t' H1 locs1 ht hvm hw hB hz1 hk1 hS1 => ?_)
  obtain ⟨hP1, hK1, hD1⟩ := hB
  rw [ht] at hP1
  exact kk u.1 u.2 hw H1 locs1 ls hls hP1 (hD1.weaken (fun _ _ _ h => hF _ h)) hS1
end RT
