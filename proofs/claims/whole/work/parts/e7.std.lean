def FSX : List Value := [.int 0, .null, .int 0, .int 0, .int 0, .int 0, .int 0, .int 0, .int 0, .int 0, .int 0, .long 0, .int 0, .null, .int 0, .int 0, .int 0, .int 0, .int 0, .int 0, .int 0, .null, .null, .null, .int 0, .int 0, .int 0, .int 0, .null, .null, .null, .null, .null, .null, .null, .null, .null, .null, .int 0, .int 0, .int 0, .int 0, .null, .int 0, .int 0, .int 0, .int 0, .int 0, .int 0, .int 0, .null, .null, .int 0, .null, .null, .null, .null, .null, .null, .int 0, .int 0, .int 0, .int 0, .int 0, .int 0, .int 0, .null, .null, .null, .int 0, .null, .int 0]
theorem fsx_ok : ∀ j : Nat, j < 72 → defaultValue (tyX12 j) = vp_V FSX j
  | 0, _ => rfl
  | 1, _ => rfl
  | 2, _ => rfl
  | 3, _ => rfl
  | 4, _ => rfl
  | 5, _ => rfl
  | 6, _ => rfl
  | 7, _ => rfl
  | 8, _ => rfl
  | 9, _ => rfl
  | 10, _ => rfl
  | 11, _ => rfl
  | 12, _ => rfl
  | 13, _ => rfl
  | 14, _ => rfl
  | 15, _ => rfl
  | 16, _ => rfl
  | 17, _ => rfl
  | 18, _ => rfl
  | 19, _ => rfl
  | 20, _ => rfl
  | 21, _ => rfl
  | 22, _ => rfl
  | 23, _ => rfl
  | 24, _ => rfl
  | 25, _ => rfl
  | 26, _ => rfl
  | 27, _ => rfl
  | 28, _ => rfl
  | 29, _ => rfl
  | 30, _ => rfl
  | 31, _ => rfl
  | 32, _ => rfl
  | 33, _ => rfl
  | 34, _ => rfl
  | 35, _ => rfl
  | 36, _ => rfl
  | 37, _ => rfl
  | 38, _ => rfl
  | 39, _ => rfl
  | 40, _ => rfl
  | 41, _ => rfl
  | 42, _ => rfl
  | 43, _ => rfl
  | 44, _ => rfl
  | 45, _ => rfl
  | 46, _ => rfl
  | 47, _ => rfl
  | 48, _ => rfl
  | 49, _ => rfl
  | 50, _ => rfl
  | 51, _ => rfl
  | 52, _ => rfl
  | 53, _ => rfl
  | 54, _ => rfl
  | 55, _ => rfl
  | 56, _ => rfl
  | 57, _ => rfl
  | 58, _ => rfl
  | 59, _ => rfl
  | 60, _ => rfl
  | 61, _ => rfl
  | 62, _ => rfl
  | 63, _ => rfl
  | 64, _ => rfl
  | 65, _ => rfl
  | 66, _ => rfl
  | 67, _ => rfl
  | 68, _ => rfl
  | 69, _ => rfl
  | 70, _ => rfl
  | 71, _ => rfl
  | n + 72, h => absurd h (by omega)
theorem sok_ad {a1 a2 aS : Nat → Nat → Nat} {q : Nat} {cI cZ cJ : ClassId} {D : va_G} {U V : List (Nat × Nat)} {A : Nat → Prop} {s : State} (h : SOK (aS, cI, cZ, cJ, D, V) A s) : SOK (adA a1 a2 aS q, cI, cZ, cJ, D, U) A s := by
  have e69 : adA a1 a2 aS q 69 = aS 69 := by
    funext a; exact (if_neg (by decide)).trans ((if_neg (by decide)).trans (if_pos (by decide)))
  have e70 : adA a1 a2 aS q 70 = aS 70 := by
    funext a; exact (if_neg (by decide)).trans ((if_neg (by decide)).trans (if_pos (by decide)))
  refine ⟨?_, fun x hx => ?_, h.2.2.1, h.2.2.2⟩
  · show vk_S 20 lenS litS (adA a1 a2 aS q 69) (adA a1 a2 aS q 70) A s s.heap
    rw [e69, e70]; exact h.1
  · show vk_R x.1 x.2.1 x.2.2.1 (adA a1 a2 aS q 69 x.2.2.2) s
    rw [e69]; exact h.2.1 x hx
theorem lvH_0 (a1 a2 aS : Nat → Nat → Nat) (q b : Nat) (cI cZ cJ : ClassId) (D : va_G) (U : List (Nat × Nat)) : lvH (adA a1 a2 aS q, cI, cZ, cJ, D, U) b (nI (6 * 0)) = [(4, .int 0), (3, .ref q), (2, .ref (a2 12 0)), (1, .ref (a1 11 0)), (0, .ref b)] := rfl
theorem L_start {K : Pk} {A : Nat → Prop} {Q : State → Prop} {b L : Nat} {xs : Row} {cI cZ cJ : ClassId} {D : va_G} (aS : Nat → Nat → Nat) (C : CB K D [(cI, .int), (cZ, .boolean), (cJ, .long)] A cL_law 7 RLw room_1) (SO : SOK (aS, cI, cZ, cJ, D, []) A K.s) (TX : TXK A K.s) (hl0 : K.l.stackTraces = false) (hX : SCR K A b L xs) (hL : L ≤ 3072) (kx : ∀ (lv : List (Nat × Value)) (ws : va_W), VC K D A 7 Q 1141 12322 1110 lv [] ws) : VC K D A 7 Q 0 0 0 [(0, .ref b)] [] [] := by
  refine k_newW C (ci := 11) (fs := [.null, .null, .null, .null, .null, .null, .null, .null, .null, .null, .null, .int 0, .int 0]) (N := 13) k_11 ty_11 rfl xk_96 xk_97 x_72 (fun j hj => by rcases (show j = 0 ∨ j = 1 ∨ j = 2 ∨ j = 3 ∨ j = 4 ∨ j = 5 ∨ j = 6 ∨ j = 7 ∨ j = 8 ∨ j = 9 ∨ j = 10 ∨ j = 11 ∨ j = 12 by omega) with rfl | rfl | rfl | rfl | rfl | rfl | rfl | rfl | rfl | rfl | rfl | rfl | rfl <;> rfl) (k2 := 1) (n2 := 13) rfl rfl ⟨by decide, by decide⟩ dL_law_0 (fun q1 => ?_)
  refine k_dup C dL_law_3 rfl ?_
  refine k_callW C (M := N_X11_init) q1 [] 0 (c_X11_init D cI cZ cJ q1) n_X11_init x_98 (by decide +kernel) rfl ⟨by decide, by decide⟩ (k2 := 85) (n2 := 2331) rfl rfl ⟨by decide, by decide⟩ rfl (Nat.le_of_ble_eq_true rfl) dL_law_4 (fun ws1 hp1 => ?_)
  obtain ⟨a1, e1, rfl⟩ := hp1
  refine k_astore_n (lv2 := [(1, .ref q1), (0, .ref b)]) C dL_law_7 rfl (by decide) rfl ?_
  refine k_newW C (ci := 12) (fs := FSX) (N := 72) k_12 ty_12 rfl xk_1236 xk_1237 x_84 (fun j hj => fsx_ok j hj) (k2 := 86) (n2 := 2403) rfl rfl ⟨by decide, by decide⟩ dL_law_8 (fun q2 => ?_)
  refine k_dup C dL_law_11 rfl ?_
  refine k_callW C (M := N_X12_init) q2 [] 0 (c_X12_init D cI cZ cJ q2) n_X12_init x_1238 (by decide +kernel) rfl ⟨by decide, by decide⟩ (k2 := 114) (n2 := 4117) rfl rfl ⟨by decide, by decide⟩ rfl (Nat.le_of_ble_eq_true rfl) dL_law_12 (fun ws2 hp2 => ?_)
  obtain ⟨a2, e2, rfl⟩ := hp2
  refine k_astore_n (lv2 := [(2, .ref q2), (1, .ref q1), (0, .ref b)]) C dL_law_15 rfl (by decide) rfl ?_
  refine k_iconst (v := 1) C dL_law_16 (by decide) ?_
  refine k_newaW C .long (ty := .long) rfl xk_494 2 rfl (fun _ => rfl) (N := 1) (a0 := (1, .inr (.inl (fun _ => 0)))) (fun _ => rfl) (by decide) (by decide) (by decide) (k2 := 115) (n2 := 4118) rfl rfl ⟨by decide, by decide⟩ dL_law_17 (fun q3 => ?_)
  refine k_astore_n (lv2 := [(3, .ref q3), (2, .ref q2), (1, .ref q1), (0, .ref b)]) C dL_law_19 rfl (by decide) rfl ?_
  refine k_iconst (v := 0) C dL_law_20 (by decide) ?_
  refine k_istore (lv2 := [(4, .int 0), (3, .ref q3), (2, .ref q2), (1, .ref q1), (0, .ref b)]) C dL_law_21 (by decide) rfl ?_
  rw [List.nil_append, wc_join a1 a2 aS q3 cI cZ cJ D]
  subst e1
  subst e2
  obtain ⟨hM, hO⟩ := ULa_ok (adA a1 a2 aS q3, cI, cZ, cJ, D, ULa) rfl
  have k := L_loop (E := (adA a1 a2 aS q3, cI, cZ, cJ, D, ULa)) (Q := Q) (b := b) C hM (sok_ad SO) TX hl0 hO hX hL (fun lv u v => kx lv _) 512 0 rfl w1 z0 J_0
  rw [lvH_0] at k
  exact k
