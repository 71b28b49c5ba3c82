section LC
variable {K : Pk} {E : En} {A : Nat → Prop} {Q : State → Prop} {kc nc b L : Nat} {xs : Row} {i : Int32} {w : Wi} {z : Wj}
theorem L_sw (C : CB K E.D (q_tys E) A cL_law 7 RLw room_1) (hM : q_okM E) (SO : SOK E A K.s) (TX : TXK A K.s) (hl0 : K.l.stackTraces = false) (hO : (72, 0) ∈ E.U) (hX : SCR K A b L xs) (hi : hIn i L) (hrm : kc + 1 ≤ 1141 ∧ nc + 6 ≤ 12322) (h : J w z) (kn : ∀ u v, J u v → VC K E.D A 7 Q (kc + 1) (nc + 6) 1104 (lvH E b i) [] (wc E u v)) {n : Nat} (hn : n < 32) : VC K E.D A 7 Q kc nc 40 (lvH E b i) [.int (nI n)] (wc E w z) := by
  by_cases c0 : n = 0
  · subst c0; exact k_tin C 120 160 dL_law_40 (by decide) (by decide) rfl (by decide) (L_feed C hM hX hi hrm h kn)
  by_cases c1 : n = 1
  · subst c1; exact k_tin C 193 233 dL_law_40 (by decide) (by decide) rfl (by decide) (L_end C hM hX hi hrm h kn)
  by_cases c2 : n = 2
  · subst c2; exact k_tin C 218 258 dL_law_40 (by decide) (by decide) rfl (by decide) (L_train C hM SO hX hi hrm h kn)
  by_cases c3 : n = 3
  · subst c3; exact k_tin C 231 271 dL_law_40 (by decide) (by decide) rfl (by decide) (L_handle C hM SO hX hi hrm h kn)
  by_cases c4 : n = 4
  · subst c4; exact k_tin C 244 284 dL_law_40 (by decide) (by decide) rfl (by decide) (L_fault C hM hX hi hrm h kn)
  by_cases c5 : n = 5
  · subst c5; exact k_tin C 257 297 dL_law_40 (by decide) (by decide) rfl (by decide) (L_car C hM SO TX hl0 hO hX hi hrm h kn)
  by_cases c6 : n = 6
  · subst c6; exact k_tin C 325 365 dL_law_40 (by decide) (by decide) rfl (by decide) (L_at C hM SO TX hl0 hO hX hi hrm h kn)
  by_cases c7 : n = 7
  · subst c7; exact k_tin C 405 445 dL_law_40 (by decide) (by decide) rfl (by decide) (L_hears C hM hX hi hrm h kn)
  by_cases c8 : n = 8
  · subst c8; exact k_tin C 430 470 dL_law_40 (by decide) (by decide) rfl (by decide) (L_easy C hM hX hi hrm h kn)
  by_cases c9 : n = 9
  · subst c9; exact k_tin C 443 483 dL_law_40 (by decide) (by decide) rfl (by decide) (L_run C hM hX hi hrm h kn)
  by_cases c10 : n = 10
  · subst c10; exact k_tin C 492 532 dL_law_40 (by decide) (by decide) rfl (by decide) (L_ran C hM hX hi hrm h kn)
  by_cases c11 : n = 11
  · subst c11; exact k_tin C 517 557 dL_law_40 (by decide) (by decide) rfl (by decide) (L_help C hM hX hi hrm h kn)
  by_cases c12 : n = 12
  · subst c12; exact k_tin C 578 618 dL_law_40 (by decide) (by decide) rfl (by decide) (L_parted C hM hX hi hrm h kn)
  by_cases c13 : n = 13
  · subst c13; exact k_tin C 651 691 dL_law_40 (by decide) (by decide) rfl (by decide) (L_order C hM hX hi hrm h kn)
  by_cases c14 : n = 14
  · subst c14; exact k_tin C 712 752 dL_law_40 (by decide) (by decide) rfl (by decide) (L_ordered C hM hX hi hrm h kn)
  by_cases c15 : n = 15
  · subst c15; exact k_tin C 737 777 dL_law_40 (by decide) (by decide) rfl (by decide) (L_cut C hM hX hi hrm h kn)
  by_cases c16 : n = 16
  · subst c16; exact k_tin C 798 838 dL_law_40 (by decide) (by decide) rfl (by decide) (L_fits C hM hX hi hrm h kn)
  by_cases c17 : n = 17
  · subst c17; exact k_tin C 835 875 dL_law_40 (by decide) (by decide) rfl (by decide) (L_fitAt C hM hX hi hrm h kn)
  by_cases c18 : n = 18
  · subst c18; exact k_tin C 860 900 dL_law_40 (by decide) (by decide) rfl (by decide) (L_walks C hM hX hi hrm h kn)
  by_cases c19 : n = 19
  · subst c19; exact k_tin C 885 925 dL_law_40 (by decide) (by decide) rfl (by decide) (L_walked C hM hX hi hrm h kn)
  by_cases c20 : n = 20
  · subst c20; exact k_tin C 910 950 dL_law_40 (by decide) (by decide) rfl (by decide) (L_day C hM hX hi hrm h kn)
  by_cases c21 : n = 21
  · subst c21; exact k_tin C 951 991 dL_law_40 (by decide) (by decide) rfl (by decide) (L_mended C hM hX hi hrm h kn)
  by_cases c22 : n = 22
  · subst c22; exact k_tin C 976 1016 dL_law_40 (by decide) (by decide) rfl (by decide) (L_suspects C hM hX hi hrm h kn)
  by_cases c23 : n = 23
  · subst c23; exact k_tin C 1001 1041 dL_law_40 (by decide) (by decide) rfl (by decide) (L_suspect C hM hX hi hrm h kn)
  by_cases c24 : n = 24
  · subst c24; exact k_tin C 1026 1066 dL_law_40 (by decide) (by decide) rfl (by decide) (L_next C hM hX hi hrm h kn)
  by_cases c25 : n = 25
  · subst c25; exact k_tin C 1039 1079 dL_law_40 (by decide) (by decide) rfl (by decide) (L_count C hM hX hi hrm h kn)
  · refine k_tout C 1104 dL_law_40 ?_ (by decide) (k_widen (Nat.le_succ _) (Nat.le_add_right _ 6) (kn w z h))
    rw [nI_toInt (by omega)]
    omega
theorem in_L {k L : Nat} (hL : L ≤ 3072) (h : 6 * k + 6 ≤ L) : hIn (nI (6 * k)) L := by
  intro j h0 h5
  obtain ⟨m, rfl, hm⟩ : ∃ m : Nat, j = nI m ∧ m ≤ 5 := ⟨j.toNatClampNeg, (nI_cl h0).symm, (cl_le h0 (show (0 : Int32) ≤ 5 by decide)).mpr h5⟩
  rw [nI_add]
  intro z
  rcases z with z | z
  · exact absurd z (by have := nI_pos' (n := 6 * k + m) (by omega); clear h0 h5; grind)
  · rw [nI_clamp (by omega)] at z; omega
theorem and_31 (x : Int32) : ∃ n, n < 32 ∧ x &&& 31 = nI n := by
  have h1 : (x &&& 31).toBitVec.toNat ≤ 31 := by
    show (x.toBitVec &&& (31 : Int32).toBitVec).toNat ≤ 31
    rw [BitVec.toNat_and]
    exact Nat.le_trans Nat.and_le_right (by decide)
  have h2 : (x &&& 31).toInt = ((x &&& 31).toBitVec.toNat : Int) := BitVec.toInt_eq_toNat_of_lt (by omega)
  refine ⟨(x &&& 31).toBitVec.toNat, by omega, Int32.toInt_inj.mp ?_⟩
  rw [nI_toInt (by omega), h2]
theorem len_6 {k L : Nat} (hL : L ≤ 3072) (hk : 6 * k ≤ 3072) (h : ¬ Int32.ofNat L - 6 < nI (6 * k)) : 6 * k + 6 ≤ L := by
  have e1 : (Int32.ofNat L).toInt = L := nI_toInt (n := L) (by omega)
  have e2 : (Int32.ofNat L - 6).toInt = L - 6 := by
    rw [ti_sub (a := 0) (b := 3072) (c := 6) (d := 6) (by rw [e1]; omega) (by rw [e1]; omega) (by decide) (by decide) (by decide) (by decide), e1]; rfl
  rw [in_toInt, e2, nI_toInt (by omega)] at h
  omega
theorem L_body (C : CB K E.D (q_tys E) A cL_law 7 RLw room_1) (hM : q_okM E) (SO : SOK E A K.s) (TX : TXK A K.s) (hl0 : K.l.stackTraces = false) (hO : (72, 0) ∈ E.U) (hX : SCR K A b L xs) (hL : L ≤ 3072) {k : Nat} (hk : 6 * k ≤ 3072) (hrm : kc + 1 ≤ 1141 ∧ nc + 6 ≤ 12322) (h : J w z) (kx : VC K E.D A 7 Q kc nc 1110 (lvH E b (nI (6 * k))) [] (wc E w z)) (kn : 6 * k + 6 ≤ L → ∀ u v, J u v → VC K E.D A 7 Q (kc + 1) (nc + 6) 1104 (lvH E b (nI (6 * k))) [] (wc E u v)) : VC K E.D A 7 Q kc nc 23 (lvH E b (nI (6 * k))) [] (wc E w z) := by
  refine k_iload C 0 dL_law_23 rfl ?_
  refine k_aload_n C 4 dL_law_25 rfl ?_
  refine k_slen C hX rfl dL_law_26 ?_
  refine k_bipush (v := 6) C dL_law_27 (by decide) ?_
  refine k_isub C dL_law_29 ?_
  refine k_ic_gt C 1110 dL_law_30 (by decide) (fun _ => kx) (fun hg => ?_)
  have h6 := len_6 hL hk hg
  have hi := in_L hL h6
  refine k_aload_n C 4 dL_law_33 rfl ?_
  refine k_iload C 0 dL_law_34 rfl ?_
  refine k_sld C hX (by have := hi 0 (by decide) (by decide); rw [Int32.add_zero] at this; exact this) dL_law_36 ?_
  refine k_bipush (v := 31) C dL_law_37 (by decide) ?_
  refine k_iand C dL_law_39 ?_
  obtain ⟨n, hn, e⟩ := and_31 (xs (nI (6 * k)).toNatClampNeg)
  rw [e]
  exact L_sw C hM SO TX hl0 hO hX hi hrm h (kn h6) hn
theorem L_loop (C : CB K E.D (q_tys E) A cL_law 7 RLw room_1) (hM : q_okM E) (SO : SOK E A K.s) (TX : TXK A K.s) (hl0 : K.l.stackTraces = false) (hO : (72, 0) ∈ E.U) (hX : SCR K A b L xs) (hL : L ≤ 3072) (kx : ∀ (lv : List (Nat × Value)) (u : Wi) (v : Wj), VC K E.D A 7 Q 1141 12322 1110 lv [] (wc E u v)) : ∀ (m k : Nat), m + k = 512 → ∀ (w : Wi) (z : Wj), J w z → VC K E.D A 7 Q (115 + k) (4118 + 6 * k) 23 (lvH E b (nI (6 * k))) [] (wc E w z) := by
  intro m
  induction m with
  | zero =>
    intro k hk w z h
    refine L_body C hM SO TX hl0 hO hX hL (by omega) ⟨by omega, by omega⟩ h (k_widen (by omega) (by omega) (kx _ w z)) (fun h6 => absurd h6 (by omega))
  | succ m ih =>
    intro k hk w z h
    refine L_body C hM SO TX hl0 hO hX hL (by omega) ⟨by omega, by omega⟩ h (k_widen (by omega) (by omega) (kx _ w z)) (fun h6 u v hJ => ?_)
    refine k_iinc (lv2 := lvH E b (nI (6 * (k + 1)))) (v := nI (6 * (k + 1))) C 0 dL_law_1104 rfl ?_ (by decide) rfl ?_
    · show nI (6 * k) + nI 6 = _
      rw [nI_add, show 6 * k + 6 = 6 * (k + 1) by omega]
    · exact k_goto C 23 dL_law_1107 (by decide) (ih (k + 1) (by omega) u v hJ)
end LC
