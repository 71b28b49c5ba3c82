/-! what the Statement gives of the start: strings, statics, tables -/
abbrev FL : List Cond := flatC (Jvm.Cond.and given_1 narrow_1)
def psS : List Nat := [24, 32, 41, 50, 60, 73, 86, 99, 114, 130, 147, 166, 183, 202, 223, 244, 267, 291, 316, 372]
def srI : List Nat := [602, 669, 670, 679, 680, 681, 691, 692, 693, 694, 695, 700, 701, 743, 756, 757, 758, 759, 1198, 1235]
def tS (i : Nat) : String × Nat × String × Nat := litT.getD i ("", 0, "", 0)
def tmS (i : Nat) : Term := .string (tS i).1 (tS i).2.1
set_option maxRecDepth 100000 in
theorem sx_1 : ∀ i, i < 20 → FL[psS.getD i 0]? = some (Cond.exactly (tmS i) "java/lang/String") := by decide +kernel
set_option maxRecDepth 100000 in
theorem sx_2 : ∀ i, i < 20 → FL[psS.getD i 0 + 1]? = some (Cond.eq (.field (tmS i) "java/lang/String" "coder" "B") (.int 0)) := by decide +kernel
set_option maxRecDepth 100000 in
theorem sx_3 : ∀ i, i < 20 → FL[psS.getD i 0 + 2]? = some (Cond.arrayOf (.field (tmS i) "java/lang/String" "value" "[B") .byte) := by decide +kernel
set_option maxRecDepth 100000 in
theorem sx_4 : ∀ i, i < 20 → FL[psS.getD i 0 + 3]? = some (Cond.eq (.length (.field (tmS i) "java/lang/String" "value" "[B")) (.int (Int32.ofNat (lenS.getD i 0)))) := by decide +kernel
set_option maxRecDepth 100000 in
theorem sx_5 : ∀ i, i < 20 → ∀ j, j < lenS.getD i 0 → FL[psS.getD i 0 + 4 + j]? = some (Cond.eq (.elem (.field (tmS i) "java/lang/String" "value" "[B") (.int (Int32.ofNat j))) (.int ((litS.getD i []).getD j 0))) := by decide +kernel
set_option maxRecDepth 100000 in
theorem sx_6 : ∀ j, j < 20 → ∀ i, i < j → FL[psS.getD j 0 + 4 + lenS.getD j 0 + i]? = some (Cond.not (Cond.eq (tmS i) (tmS j))) := by decide +kernel
set_option maxRecDepth 100000 in
theorem sx_7 : ∀ i, i < 20 → lw_tbl[srI.getD i 0]? = some (Cond.stringRef (tS i).1 (tS i).2.1 (tS i).2.2.1) := by decide +kernel
set_option maxRecDepth 100000 in
theorem sx_8 : ∀ i, i < 20 → (tS i).2.2.2 = i := by decide +kernel
set_option maxRecDepth 100000 in
theorem sx_9 : ∀ i, i < 20 → lenS.getD i 0 < 2 ^ 31 := by decide +kernel
theorem sok_of {s : State} {args : Array Value} {A : Nat → Prop} (cI cZ cJ : ClassId) (D : va_G) (hs : ∀ c ∈ FL, c.before args s = true) (hts : ∀ w ∈ lw_tbl, w.before args s = true) (hA : ∀ a : Nat, a < s.heap.size → ¬ A a) : ∃ aS : Nat → Nat → Nat, SOK (aS, cI, cZ, cJ, D, []) A s := by
  obtain ⟨adK, adV, h1, h2⟩ := vk_Sof (N := 20) (tm := tmS) (len := lenS) (byt := litS) (A := A) sx_9 (fun i hi => hs _ (List.mem_of_getElem? (sx_1 i hi))) (fun i hi => hs _ (List.mem_of_getElem? (sx_2 i hi))) (fun i hi => hs _ (List.mem_of_getElem? (sx_3 i hi))) (fun i hi => hs _ (List.mem_of_getElem? (sx_4 i hi))) (fun i hi j hj => hs _ (List.mem_of_getElem? (sx_5 i hi j hj)))
    (fun i j hi hj hij => by
      rcases Nat.lt_or_gt_of_ne hij with h | h
      · exact Or.inl (hs _ (List.mem_of_getElem? (sx_6 j hj i h)))
      · exact Or.inr (hs _ (List.mem_of_getElem? (sx_6 i hi j h)))) hA
  refine ⟨fun t a => if t = 69 then adK a else adV a, h1, fun q hq => ?_, ?_, ?_⟩
  · obtain ⟨i, hi⟩ := List.getElem?_of_mem hq
    have hlt : i < 20 := (List.getElem?_eq_some_iff.mp hi).1
    have e : tS i = q := by
      simp only [tS, List.getD_eq_getElem?_getD, hi, Option.getD_some]
    have e8 := sx_8 i hlt
    rw [e] at e8
    have k1 := hts _ (List.mem_of_getElem? (sx_7 i hlt))
    have k2 := h2 i hlt
    simp only [tmS] at k2
    rw [e] at k1 k2
    rw [e8]
    exact vk_R.of k1 k2
  · exact va_Zof (hts _ (List.mem_of_getElem? (i := 616) (by decide +kernel))) (hts _ (List.mem_of_getElem? (i := 86) (by decide +kernel))) (va_eqi (hs _ (List.mem_of_getElem? (i := 4) (by decide +kernel)))) hA
  · exact va_Zqof (hts _ (List.mem_of_getElem? (i := 632) (by decide +kernel))) (hts _ (List.mem_of_getElem? (i := 88) (by decide +kernel))) (hs _ (List.mem_of_getElem? (i := 5) (by decide +kernel))) hA
theorem txk_of {s : State} {args : Array Value} {A : Nat → Prop} (hs : ∀ c ∈ FL, c.before args s = true) (hts : ∀ w ∈ lw_tbl, w.before args s = true) (hA : ∀ a : Nat, a < s.heap.size → ¬ A a) : TXK A s :=
  ⟨⟨va_Nw.of rfl (hts _ (List.mem_of_getElem? (i := 1161) (by decide +kernel))), va_Nw.of rfl (hts _ (List.mem_of_getElem? (i := 1163) (by decide +kernel))), va_Nw.of rfl (hts _ (List.mem_of_getElem? (i := 1165) (by decide +kernel))), va_Nw.of rfl (hts _ (List.mem_of_getElem? (i := 1167) (by decide +kernel)))⟩,
   vx_Zqof (hts _ (List.mem_of_getElem? (i := 1186) (by decide +kernel))) (hts _ (List.mem_of_getElem? (i := 91) (by decide +kernel))) (hs _ (List.mem_of_getElem? (i := 9) (by decide +kernel))) hA,
   vx_Zqof (hts _ (List.mem_of_getElem? (i := 1188) (by decide +kernel))) (hts _ (List.mem_of_getElem? (i := 91) (by decide +kernel))) (hs _ (List.mem_of_getElem? (i := 10) (by decide +kernel))) hA⟩
def nsI : List Nat := [106, 164, 239, 272, 274, 277, 316, 352, 354, 356, 407, 409, 470]
theorem ns_1 : ∀ i, i < 13 → ∃ q, nestL[i]? = some q ∧ lw_tbl[nsI.getD i 0]? = some (Cond.methodLinkNest q.1 q.2.1 q.2.2 RX11) := by
  intro i hi
  have h : ∀ i, i < 13 → lw_tbl[nsI.getD i 0]? = (nestL[i]?).map (fun q => Cond.methodLinkNest q.1 q.2.1 q.2.2 RX11) := by decide +kernel
  obtain ⟨q, hq⟩ : ∃ q, nestL[i]? = some q := ⟨_, List.getElem?_eq_getElem (show i < nestL.length from hi)⟩
  refine ⟨q, hq, ?_⟩
  rw [h i hi, hq]; rfl
theorem nst_of {s : State} {args : Array Value} (hts : ∀ w ∈ lw_tbl, w.before args s = true) : NST s := by
  intro q hq
  obtain ⟨i, hi⟩ := List.getElem?_of_mem hq
  obtain ⟨q2, h1, h2⟩ := ns_1 i (List.getElem?_eq_some_iff.mp hi).1
  rw [hi] at h1
  cases h1
  exact va_Nw.of rfl (hts _ (List.mem_of_getElem? h2))
theorem cls_of {s : State} {args : Array Value} (hg : ∀ w ∈ gtb, w.before args s = true) : ∃ D : va_G, ∀ (c : Nat) (q : vw_C), classes[c]? = some q → u_Kn s q.1 q.2.1 q.2.2 (D.1 c) (D.2 c) := by
  have one : ∀ {t n : Nat} {C : String} {T : u_T}, q_cl t C T → Cond.instantiable C n ∈ gtb → ∃ q : ClassId × (Nat → Nat), ∀ x, classes[t]? = some x → u_Kn s x.1 x.2.1 x.2.2 q.1 q.2 := by
    intro t n C T h hi
    obtain ⟨cC, iS, hk⟩ := u_known hg h.2.2 (hg _ hi)
    exact ⟨(cC, iS), fun x hx => by rw [h.2.1] at hx; cases hx; exact hk⟩
  have all : ∀ t : Nat, ∃ q : ClassId × (Nat → Nat), ∀ x, classes[t]? = some x → u_Kn s x.1 x.2.1 x.2.2 q.1 q.2 := by
    intro t
    match t with
    | 0 => exact one k_0 xk_276
    | 1 => exact one k_1 xk_469
    | 2 => exact one k_2 xk_401
    | 3 => exact one k_3 xk_232
    | 4 => exact one k_4 xk_238
    | 5 => exact one k_5 xk_163
    | 6 => exact one k_6 xk_315
    | 7 => exact one k_7 xk_105
    | 8 => exact one k_8 xk_124
    | 9 => exact one k_9 xk_157
    | 10 => exact one k_10 xk_346
    | 11 => exact one k_11 xk_97
    | 12 => exact one k_12 xk_1237
    | n + 13 =>
      have e13 : classes[n + 13]? = none := List.getElem?_eq_none (show 13 ≤ n + 13 by omega)
      exact ⟨(0, fun _ => 0), fun x hx => by rw [e13] at hx; cases hx⟩
  obtain ⟨f, hf⟩ := Classical.axiomOfChoice all
  exact ⟨(fun t => (f t).1, fun t => (f t).2), fun c q h => hf c q h⟩
theorem arr_of {s : State} {args : Array Value} {ty : FieldType} (h : (Cond.arrayClass ty).before args s = true) : ∃ c : ClassId, ArrOfT s c ty ∧ s.vm.findClass ("[" ++ ty.toString) = some c := by
  obtain ⟨c, k, comp, h1, h2, h3⟩ := Cond.arrayClass_spec h
  exact ⟨c, fun n z => ⟨(fun k h => by cases h), k, h2, comp, h3⟩, h1⟩
