theorem ite_cg {α : Type} {p q : Prop} [Decidable p] [Decidable q] {a b c d : α} (h : p ↔ q) (e : a = c) (f : b = d) : (if p then a else b) = (if q then c else d) := by
  by_cases k : p
  · rw [if_pos k, if_pos (h.mp k), e]
  · rw [if_neg k, if_neg (fun z => k (h.mpr z)), f]
theorem cnt_e {L M : LV} (h : LJ L M) : (if 1 ≤ M.1 ∧ M.1 ≤ 20 then L.2.2.2.2 (M.1 - 1).toNatClampNeg else 0) = sumR M.2.2.2.2 M.1.toNatClampNeg := by
  obtain ⟨h1, h2, h3, h4, h5⟩ := h
  by_cases c : 1 ≤ M.1
  · rw [if_pos ⟨c, h2.2⟩]
    have e : (M.1 - 1).toNatClampNeg + 1 = M.1.toNatClampNeg := by
      have a1 := cl_toInt h2.1
      have a2 := cl_toInt (c := M.1 - 1) (by grind)
      have a3 : (M.1 - 1).toInt = M.1.toInt - 1 := ti_sub (a := 1) (b := 20) (c := 1) (d := 1) (le_toInt.mp c) (le_toInt.mp h2.2) (by decide) (by decide) (by decide) (by decide)
      omega
    rw [(h5 (M.1 - 1).toNatClampNeg (by omega)).2.2, e]
  · rw [if_neg (fun z => c z.1)]
    have : M.1 = 0 := by grind
    rw [this]; rfl
theorem fs_j {n : Row} {f : Row} : ∀ m : Nat, ∃ j, (fsR n f m).2 = nI j ∧ j ≤ m := by
  intro m
  induction m with
  | zero => exact ⟨0, rfl, Nat.le_refl _⟩
  | succ m ih =>
    obtain ⟨j, e, h⟩ := ih
    simp only [fsR]
    split
    · exact ⟨j + 1, by show (fsR n f m).2 + 1 = _; rw [e]; exact nI_add j 1, by omega⟩
    · exact ⟨j, e, by omega⟩
theorem fs_b (n f : Row) : 0 ≤ (fsR n f 40).2 ∧ (fsR n f 40).2 ≤ 40 := by
  obtain ⟨j, e, h⟩ := fs_j (n := n) (f := f) 40
  rw [e]
  exact ⟨nI_pos' (by omega), (nI_leq (by omega) (show 40 < 2 ^ 31 by omega)).mpr h⟩
theorem nar_z (x : Int32) : vp_nar .boolean x = 0 ∨ vp_nar .boolean x = 1 := by
  have e : vp_nar .boolean x = x &&& 1 := rfl
  rw [e]
  have h1 : (x &&& 1).toBitVec.toNat ≤ 1 := by
    show (x.toBitVec &&& (1 : Int32).toBitVec).toNat ≤ 1
    rw [BitVec.toNat_and]
    exact Nat.le_trans Nat.and_le_right (by decide)
  have h2 : (x &&& 1).toInt = ((x &&& 1).toBitVec.toNat : Int) := BitVec.toInt_eq_toNat_of_lt (by omega)
  rcases Nat.lt_or_ge (x &&& 1).toBitVec.toNat 1 with q | q
  · exact Or.inl (Int32.toInt_inj.mp (by rw [h2]; show _ = (0 : Int); omega))
  · exact Or.inr (Int32.toInt_inj.mp (by rw [h2]; show _ = (1 : Int); omega))
theorem day_b {n : Int32} {r m : Nat → Int64} {h : Row} {v : Int64} {hot : Int32} (b2 : 0 ≤ n ∧ n ≤ 40) (b6 : ∀ k, h k = 0 ∨ h k = 1) : JB (if v = 0 ∨ 40 ≤ n then n else n + 1) (if v = 0 ∨ n = 40 then n else n + 1) (if v = 0 ∨ 40 ≤ n then r else vp_updL r n.toNatClampNeg v) (if v = 0 ∨ n = 40 then r else vp_updL r n.toNatClampNeg v) (if v = 0 ∨ 40 ≤ n then m else vp_updL m n.toNatClampNeg 0) (if v = 0 ∨ n = 40 then m else vp_updL m n.toNatClampNeg 0) (if v = 0 ∨ 40 ≤ n then h else upd h n.toNatClampNeg (vp_nar .boolean hot)) (if v = 0 ∨ n = 40 then h else upd h n.toNatClampNeg (vp_nar .boolean hot)) := by
  have q : (v = 0 ∨ 40 ≤ n) ↔ (v = 0 ∨ n = 40) := by grind
  refine ⟨ite_cg q rfl rfl, ?_, ite_cg q rfl rfl, ite_cg q rfl rfl, ite_cg q rfl rfl, ?_⟩
  · split
    · exact b2
    · exact ⟨by grind, by grind⟩
  · split
    · exact b6
    · exact upd_b (P := fun x => x = 0 ∨ x = 1) b6 (nar_z hot)

set_option maxHeartbeats 1000000 in
theorem s_fault (E : En) (hM : q_okM E) (w : Wi) (z : Wj) (h : J w z) : Pr M_X11_fault M_X12_fault E [] w z := by
  obtain ⟨hT, hK, hL, hF, hR, hO, hG, hW, hB, hS⟩ := h
  obtain ⟨l1, l2, l3⟩ := lj_b hL
  obtain ⟨t1, t2, t3, t4⟩ := hT
  obtain ⟨kR, kB, kS, kW, kw, ka, kn⟩ := jk_all hK
  have kn1 : 1 ≤ w 1074 0 0 ∧ w 1074 0 0 ≤ 16 := hK.2.1
  have ki := hK.2.2.2.2.1
  have ke : w 500 0 0 = w 1074 0 0 := hK.1.1
  refine ⟨P_X11_fault w z, c_X11_fault E hM.1 w z, fun r W Z hp => ?_⟩
  obtain ⟨hr, hu⟩ := hp
  cases hu
  refine ⟨P_X12_fault _ _, c_X12_fault E hM _ _, fun r2 U Y hq => ?_⟩
  obtain ⟨hr2, hu2⟩ := hq
  cases hu2
  refine ⟨?_, J_mk ?_ ?_ ?_ ?_ ?_ ?_ ?_ ?_ ?_ ?_⟩
  · rw [hr, hr2]
    exact hF.symm
  · (try simp (disch := decide) only [wS_s, wS_t, wB_o, RW, LW, MW]); exact ⟨t1, t2, t3, t4⟩
  · (try simp (disch := decide) only [wS_s, wS_t, wB_o, RW, LW, MW]); exact hK
  · (try simp (disch := decide) only [wS_s, wS_t, wB_o, RW, LW, MW]); exact hL
  · (try simp (disch := decide) only [wS_s, wS_t, wB_o, RW, LW, MW]); exact hF
  · (try simp (disch := decide) only [wS_s, wS_t, wB_o, RW, LW, MW]); exact hR
  · (try simp (disch := decide) only [wS_s, wS_t, wB_o, RW, LW, MW]); exact hO
  · (try simp (disch := decide) only [wS_s, wS_t, wB_o, RW, LW, MW]); exact hG
  · (try simp (disch := decide) only [wS_s, wS_t, wB_o, RW, LW, MW]); exact hW
  · (try simp (disch := decide) only [wS_s, wS_t, wB_o, RW, LW, MW]); exact hB
  · (try simp (disch := decide) only [wS_s, wS_t, wB_o, RW, LW, MW]); exact hS
set_option maxHeartbeats 1000000 in
theorem s_end (E : En) (hM : q_okM E) (w : Wi) (z : Wj) (n : Int32) (h : J w z) : Pr M_X11_end M_X12_end E [.int n] w z := by
  obtain ⟨hT, hK, hL, hF, hR, hO, hG, hW, hB, hS⟩ := h
  obtain ⟨l1, l2, l3⟩ := lj_b hL
  obtain ⟨t1, t2, t3, t4⟩ := hT
  obtain ⟨kR, kB, kS, kW, kw, ka, kn⟩ := jk_all hK
  have kn1 : 1 ≤ w 1074 0 0 ∧ w 1074 0 0 ≤ 16 := hK.2.1
  have ki := hK.2.2.2.2.1
  have ke : w 500 0 0 = w 1074 0 0 := hK.1.1
  refine ⟨P_X11_end w z n, c_X11_end E hM.1 w z n, fun r W Z hp => ?_⟩
  obtain ⟨hr, hu⟩ := hp
  cases hu
  refine ⟨P_X12_end _ _ n, c_X12_end E hM _ _ n, fun r2 U Y hq => ?_⟩
  obtain ⟨hr2, hu2⟩ := hq
  cases hu2
  refine ⟨?_, J_mk ?_ ?_ ?_ ?_ ?_ ?_ ?_ ?_ ?_ ?_⟩
  · rw [hr, hr2]
    try simp (disch := decide) only [wS_s, wS_t, wB_o, RW, LW, MW]
    rw [t1]
  · try simp (disch := decide) only [wS_s, wS_t, wB_o, RW, LW, MW]
    refine ⟨by rw [t1], t2, ?_, t4⟩
    split
    · exact t3
    · exact ⟨by grind, by grind⟩
  · (try simp (disch := decide) only [wS_s, wS_t, wB_o, RW, LW, MW]); exact hK
  · (try simp (disch := decide) only [wS_s, wS_t, wB_o, RW, LW, MW]); exact hL
  · (try simp (disch := decide) only [wS_s, wS_t, wB_o, RW, LW, MW]); exact hF
  · (try simp (disch := decide) only [wS_s, wS_t, wB_o, RW, LW, MW]); exact hR
  · (try simp (disch := decide) only [wS_s, wS_t, wB_o, RW, LW, MW]); exact hO
  · (try simp (disch := decide) only [wS_s, wS_t, wB_o, RW, LW, MW]); exact hG
  · (try simp (disch := decide) only [wS_s, wS_t, wB_o, RW, LW, MW]); exact hW
  · (try simp (disch := decide) only [wS_s, wS_t, wB_o, RW, LW, MW]); exact hB
  · (try simp (disch := decide) only [wS_s, wS_t, wB_o, RW, LW, MW]); exact hS
set_option maxHeartbeats 1000000 in
theorem s_ordered (E : En) (hM : q_okM E) (w : Wi) (z : Wj) (k : Int32) (h : J w z) : Pr M_X11_ordered M_X12_ordered E [.int k] w z := by
  obtain ⟨hT, hK, hL, hF, hR, hO, hG, hW, hB, hS⟩ := h
  obtain ⟨l1, l2, l3⟩ := lj_b hL
  obtain ⟨t1, t2, t3, t4⟩ := hT
  obtain ⟨kR, kB, kS, kW, kw, ka, kn⟩ := jk_all hK
  have kn1 : 1 ≤ w 1074 0 0 ∧ w 1074 0 0 ≤ 16 := hK.2.1
  have ki := hK.2.2.2.2.1
  have ke : w 500 0 0 = w 1074 0 0 := hK.1.1
  refine ⟨P_X11_ordered w z k, c_X11_ordered E hM.1 w z k, fun r W Z hp => ?_⟩
  obtain ⟨hr, hu⟩ := hp
  cases hu
  refine ⟨P_X12_ordered _ _ k, c_X12_ordered E hM _ _ k hO.2.1.2, fun r2 U Y hq => ?_⟩
  obtain ⟨hr2, hu2⟩ := hq
  cases hu2
  refine ⟨?_, J_mk ?_ ?_ ?_ ?_ ?_ ?_ ?_ ?_ ?_ ?_⟩
  · rw [hr, hr2]
    try simp (disch := decide) only [wS_s, wS_t, wB_o, RW, LW, MW]
    obtain ⟨o1, o2, o3⟩ := hO
    rw [o1]
    by_cases c : 0 ≤ k ∧ k < w 1112 0 0
    · rw [if_pos c, if_pos ⟨c.1, c.2, by grind⟩, o3 _ ((cl_lt c.1 (by grind)).mpr c.2)]
    · rw [if_neg c, if_neg (fun q => c ⟨q.1, q.2.1⟩)]
  · (try simp (disch := decide) only [wS_s, wS_t, wB_o, RW, LW, MW]); exact ⟨t1, t2, t3, t4⟩
  · (try simp (disch := decide) only [wS_s, wS_t, wB_o, RW, LW, MW]); exact hK
  · (try simp (disch := decide) only [wS_s, wS_t, wB_o, RW, LW, MW]); exact hL
  · (try simp (disch := decide) only [wS_s, wS_t, wB_o, RW, LW, MW]); exact hF
  · (try simp (disch := decide) only [wS_s, wS_t, wB_o, RW, LW, MW]); exact hR
  · (try simp (disch := decide) only [wS_s, wS_t, wB_o, RW, LW, MW]); exact hO
  · (try simp (disch := decide) only [wS_s, wS_t, wB_o, RW, LW, MW]); exact hG
  · (try simp (disch := decide) only [wS_s, wS_t, wB_o, RW, LW, MW]); exact hW
  · (try simp (disch := decide) only [wS_s, wS_t, wB_o, RW, LW, MW]); exact hB
  · (try simp (disch := decide) only [wS_s, wS_t, wB_o, RW, LW, MW]); exact hS
set_option maxHeartbeats 1000000 in
theorem s_fitAt (E : En) (hM : q_okM E) (w : Wi) (z : Wj) (k : Int32) (h : J w z) : Pr M_X11_fitAt M_X12_fitAt E [.int k] w z := by
  obtain ⟨hT, hK, hL, hF, hR, hO, hG, hW, hB, hS⟩ := h
  obtain ⟨l1, l2, l3⟩ := lj_b hL
  obtain ⟨t1, t2, t3, t4⟩ := hT
  obtain ⟨kR, kB, kS, kW, kw, ka, kn⟩ := jk_all hK
  have kn1 : 1 ≤ w 1074 0 0 ∧ w 1074 0 0 ≤ 16 := hK.2.1
  have ki := hK.2.2.2.2.1
  have ke : w 500 0 0 = w 1074 0 0 := hK.1.1
  refine ⟨P_X11_fitAt w z k, c_X11_fitAt E hM.1 w z k, fun r W Z hp => ?_⟩
  obtain ⟨hr, hu⟩ := hp
  cases hu
  refine ⟨P_X12_fitAt _ _ k, c_X12_fitAt E hM _ _ k hG.2.1.2, fun r2 U Y hq => ?_⟩
  obtain ⟨hr2, hu2⟩ := hq
  cases hu2
  refine ⟨?_, J_mk ?_ ?_ ?_ ?_ ?_ ?_ ?_ ?_ ?_ ?_⟩
  · rw [hr, hr2]
    try simp (disch := decide) only [wS_s, wS_t, wB_o, RW, LW, MW]
    obtain ⟨o1, o2, o3, o4⟩ := hG
    rw [o1]
    by_cases c : 0 ≤ k ∧ k < w 1120 0 0
    · rw [if_pos c, if_pos ⟨c.1, c.2, by grind⟩, o3 _ ((cl_lt c.1 (by grind)).mpr c.2)]
    · rw [if_neg c, if_neg (fun q => c ⟨q.1, q.2.1⟩)]
  · (try simp (disch := decide) only [wS_s, wS_t, wB_o, RW, LW, MW]); exact ⟨t1, t2, t3, t4⟩
  · (try simp (disch := decide) only [wS_s, wS_t, wB_o, RW, LW, MW]); exact hK
  · (try simp (disch := decide) only [wS_s, wS_t, wB_o, RW, LW, MW]); exact hL
  · (try simp (disch := decide) only [wS_s, wS_t, wB_o, RW, LW, MW]); exact hF
  · (try simp (disch := decide) only [wS_s, wS_t, wB_o, RW, LW, MW]); exact hR
  · (try simp (disch := decide) only [wS_s, wS_t, wB_o, RW, LW, MW]); exact hO
  · (try simp (disch := decide) only [wS_s, wS_t, wB_o, RW, LW, MW]); exact hG
  · (try simp (disch := decide) only [wS_s, wS_t, wB_o, RW, LW, MW]); exact hW
  · (try simp (disch := decide) only [wS_s, wS_t, wB_o, RW, LW, MW]); exact hB
  · (try simp (disch := decide) only [wS_s, wS_t, wB_o, RW, LW, MW]); exact hS
set_option maxHeartbeats 1000000 in
theorem s_suspect (E : En) (hM : q_okM E) (w : Wi) (z : Wj) (k : Int32) (h : J w z) : Pr M_X11_suspect M_X12_suspect E [.int k] w z := by
  obtain ⟨hT, hK, hL, hF, hR, hO, hG, hW, hB, hS⟩ := h
  obtain ⟨l1, l2, l3⟩ := lj_b hL
  obtain ⟨t1, t2, t3, t4⟩ := hT
  obtain ⟨kR, kB, kS, kW, kw, ka, kn⟩ := jk_all hK
  have kn1 : 1 ≤ w 1074 0 0 ∧ w 1074 0 0 ≤ 16 := hK.2.1
  have ki := hK.2.2.2.2.1
  have ke : w 500 0 0 = w 1074 0 0 := hK.1.1
  refine ⟨P_X11_suspect w z k, c_X11_suspect E hM.1 w z k, fun r W Z hp => ?_⟩
  obtain ⟨hr, hu⟩ := hp
  cases hu
  refine ⟨P_X12_suspect _ _ k, c_X12_suspect E hM _ _ k hS.2.1.2, fun r2 U Y hq => ?_⟩
  obtain ⟨hr2, hu2⟩ := hq
  cases hu2
  refine ⟨?_, J_mk ?_ ?_ ?_ ?_ ?_ ?_ ?_ ?_ ?_ ?_⟩
  · rw [hr, hr2]
    try simp (disch := decide) only [wS_s, wS_t, wB_o, RW, LW, MW]
    obtain ⟨o1, o2, o3⟩ := hS
    rw [o1, o3]
    by_cases c : 0 ≤ k ∧ k < w 1131 0 0
    · rw [if_pos c, if_pos ⟨c.1, c.2, by grind⟩]
    · rw [if_neg c, if_neg (fun q => c ⟨q.1, q.2.1⟩)]
  · (try simp (disch := decide) only [wS_s, wS_t, wB_o, RW, LW, MW]); exact ⟨t1, t2, t3, t4⟩
  · (try simp (disch := decide) only [wS_s, wS_t, wB_o, RW, LW, MW]); exact hK
  · (try simp (disch := decide) only [wS_s, wS_t, wB_o, RW, LW, MW]); exact hL
  · (try simp (disch := decide) only [wS_s, wS_t, wB_o, RW, LW, MW]); exact hF
  · (try simp (disch := decide) only [wS_s, wS_t, wB_o, RW, LW, MW]); exact hR
  · (try simp (disch := decide) only [wS_s, wS_t, wB_o, RW, LW, MW]); exact hO
  · (try simp (disch := decide) only [wS_s, wS_t, wB_o, RW, LW, MW]); exact hG
  · (try simp (disch := decide) only [wS_s, wS_t, wB_o, RW, LW, MW]); exact hW
  · (try simp (disch := decide) only [wS_s, wS_t, wB_o, RW, LW, MW]); exact hB
  · (try simp (disch := decide) only [wS_s, wS_t, wB_o, RW, LW, MW]); exact hS
set_option maxHeartbeats 1000000 in
theorem s_walked (E : En) (hM : q_okM E) (w : Wi) (z : Wj) (k : Int32) (h : J w z) : Pr M_X11_walked M_X12_walked E [.int k] w z := by
  obtain ⟨hT, hK, hL, hF, hR, hO, hG, hW, hB, hS⟩ := h
  obtain ⟨l1, l2, l3⟩ := lj_b hL
  obtain ⟨t1, t2, t3, t4⟩ := hT
  obtain ⟨kR, kB, kS, kW, kw, ka, kn⟩ := jk_all hK
  have kn1 : 1 ≤ w 1074 0 0 ∧ w 1074 0 0 ≤ 16 := hK.2.1
  have ki := hK.2.2.2.2.1
  have ke : w 500 0 0 = w 1074 0 0 := hK.1.1
  refine ⟨P_X11_walked w z k, c_X11_walked E hM.1 w z k, fun r W Z hp => ?_⟩
  obtain ⟨hr, hu⟩ := hp
  cases hu
  refine ⟨P_X12_walked _ _ k, c_X12_walked E hM _ _ k, fun r2 U Y hq => ?_⟩
  obtain ⟨hr2, hu2⟩ := hq
  cases hu2
  refine ⟨?_, J_mk ?_ ?_ ?_ ?_ ?_ ?_ ?_ ?_ ?_ ?_⟩
  · rw [hr, hr2]
    try simp (disch := decide) only [wS_s, wS_t, wB_o, RW, LW, MW]
    obtain ⟨o1, o2, o3⟩ := hW
    rw [o1, o2, o3]
  · (try simp (disch := decide) only [wS_s, wS_t, wB_o, RW, LW, MW]); exact ⟨t1, t2, t3, t4⟩
  · (try simp (disch := decide) only [wS_s, wS_t, wB_o, RW, LW, MW]); exact hK
  · (try simp (disch := decide) only [wS_s, wS_t, wB_o, RW, LW, MW]); exact hL
  · (try simp (disch := decide) only [wS_s, wS_t, wB_o, RW, LW, MW]); exact hF
  · (try simp (disch := decide) only [wS_s, wS_t, wB_o, RW, LW, MW]); exact hR
  · (try simp (disch := decide) only [wS_s, wS_t, wB_o, RW, LW, MW]); exact hO
  · (try simp (disch := decide) only [wS_s, wS_t, wB_o, RW, LW, MW]); exact hG
  · (try simp (disch := decide) only [wS_s, wS_t, wB_o, RW, LW, MW]); exact hW
  · (try simp (disch := decide) only [wS_s, wS_t, wB_o, RW, LW, MW]); exact hB
  · (try simp (disch := decide) only [wS_s, wS_t, wB_o, RW, LW, MW]); exact hS
set_option maxHeartbeats 1000000 in
theorem s_ran (E : En) (hM : q_okM E) (w : Wi) (z : Wj) (k : Int32) (h : J w z) : Pr M_X11_ran M_X12_ran E [.int k] w z := by
  obtain ⟨hT, hK, hL, hF, hR, hO, hG, hW, hB, hS⟩ := h
  obtain ⟨l1, l2, l3⟩ := lj_b hL
  obtain ⟨t1, t2, t3, t4⟩ := hT
  obtain ⟨kR, kB, kS, kW, kw, ka, kn⟩ := jk_all hK
  have kn1 : 1 ≤ w 1074 0 0 ∧ w 1074 0 0 ≤ 16 := hK.2.1
  have ki := hK.2.2.2.2.1
  have ke : w 500 0 0 = w 1074 0 0 := hK.1.1
  refine ⟨P_X11_ran w z k, c_X11_ran E hM.1 w z k, fun r W Z hp => ?_⟩
  obtain ⟨hr, hu⟩ := hp
  cases hu
  refine ⟨P_X12_ran _ _ k, c_X12_ran E hM _ _ k, fun r2 U Y hq => ?_⟩
  obtain ⟨hr2, hu2⟩ := hq
  cases hu2
  refine ⟨?_, J_mk ?_ ?_ ?_ ?_ ?_ ?_ ?_ ?_ ?_ ?_⟩
  · rw [hr, hr2]
    try simp (disch := decide) only [wS_s, wS_t, wB_o, RW, LW, MW]
    obtain ⟨o1, o2⟩ := hR
    rw [o1]
    by_cases c : w 1109 0 0 = 0
    · rw [if_pos c, if_pos c]
    · obtain ⟨a1, a2, a3⟩ := o2 c
      rw [a1, a2, a3]
  · (try simp (disch := decide) only [wS_s, wS_t, wB_o, RW, LW, MW]); exact ⟨t1, t2, t3, t4⟩
  · (try simp (disch := decide) only [wS_s, wS_t, wB_o, RW, LW, MW]); exact hK
  · (try simp (disch := decide) only [wS_s, wS_t, wB_o, RW, LW, MW]); exact hL
  · (try simp (disch := decide) only [wS_s, wS_t, wB_o, RW, LW, MW]); exact hF
  · (try simp (disch := decide) only [wS_s, wS_t, wB_o, RW, LW, MW]); exact hR
  · (try simp (disch := decide) only [wS_s, wS_t, wB_o, RW, LW, MW]); exact hO
  · (try simp (disch := decide) only [wS_s, wS_t, wB_o, RW, LW, MW]); exact hG
  · (try simp (disch := decide) only [wS_s, wS_t, wB_o, RW, LW, MW]); exact hW
  · (try simp (disch := decide) only [wS_s, wS_t, wB_o, RW, LW, MW]); exact hB
  · (try simp (disch := decide) only [wS_s, wS_t, wB_o, RW, LW, MW]); exact hS
set_option maxHeartbeats 1000000 in
theorem s_count (E : En) (hM : q_okM E) (w : Wi) (z : Wj) (k : Int32) (h : J w z) : Pr M_X11_count M_X12_count E [.int k] w z := by
  obtain ⟨hT, hK, hL, hF, hR, hO, hG, hW, hB, hS⟩ := h
  obtain ⟨l1, l2, l3⟩ := lj_b hL
  obtain ⟨t1, t2, t3, t4⟩ := hT
  obtain ⟨kR, kB, kS, kW, kw, ka, kn⟩ := jk_all hK
  have kn1 : 1 ≤ w 1074 0 0 ∧ w 1074 0 0 ≤ 16 := hK.2.1
  have ki := hK.2.2.2.2.1
  have ke : w 500 0 0 = w 1074 0 0 := hK.1.1
  refine ⟨P_X11_count w z k, c_X11_count E hM.1 w z k, fun r W Z hp => ?_⟩
  obtain ⟨hr, hu⟩ := hp
  cases hu
  refine ⟨P_X12_count _ _ k, c_X12_count E hM _ _ k l2 l3, fun r2 U Y hq => ?_⟩
  obtain ⟨hr2, hu2⟩ := hq
  cases hu2
  refine ⟨?_, J_mk ?_ ?_ ?_ ?_ ?_ ?_ ?_ ?_ ?_ ?_⟩
  · rw [hr, hr2]
    try simp (disch := decide) only [wS_s, wS_t, wB_o, RW, LW, MW]
    rw [ke, show w 420 0 0 = w 1084 0 0 from l1, hB.1, t1, cnt_e hL]
  · (try simp (disch := decide) only [wS_s, wS_t, wB_o, RW, LW, MW]); exact ⟨t1, t2, t3, t4⟩
  · (try simp (disch := decide) only [wS_s, wS_t, wB_o, RW, LW, MW]); exact hK
  · (try simp (disch := decide) only [wS_s, wS_t, wB_o, RW, LW, MW]); exact hL
  · (try simp (disch := decide) only [wS_s, wS_t, wB_o, RW, LW, MW]); exact hF
  · (try simp (disch := decide) only [wS_s, wS_t, wB_o, RW, LW, MW]); exact hR
  · (try simp (disch := decide) only [wS_s, wS_t, wB_o, RW, LW, MW]); exact hO
  · (try simp (disch := decide) only [wS_s, wS_t, wB_o, RW, LW, MW]); exact hG
  · (try simp (disch := decide) only [wS_s, wS_t, wB_o, RW, LW, MW]); exact hW
  · (try simp (disch := decide) only [wS_s, wS_t, wB_o, RW, LW, MW]); exact hB
  · (try simp (disch := decide) only [wS_s, wS_t, wB_o, RW, LW, MW]); exact hS
set_option maxHeartbeats 1000000 in
theorem s_feed (E : En) (hM : q_okM E) (w : Wi) (z : Wj) (a : Int32) (b : Int32) (c : Int32) (d : Int32) (e : Int32) (h : J w z) : Pr M_X11_feed M_X12_feed E [.int a, .int b, .int c, .int d, .int e] w z := by
  obtain ⟨hT, hK, hL, hF, hR, hO, hG, hW, hB, hS⟩ := h
  obtain ⟨l1, l2, l3⟩ := lj_b hL
  obtain ⟨t1, t2, t3, t4⟩ := hT
  obtain ⟨kR, kB, kS, kW, kw, ka, kn⟩ := jk_all hK
  have kn1 : 1 ≤ w 1074 0 0 ∧ w 1074 0 0 ≤ 16 := hK.2.1
  have ki := hK.2.2.2.2.1
  have ke : w 500 0 0 = w 1074 0 0 := hK.1.1
  refine ⟨P_X11_feed w z a b c d e, c_X11_feed E hM.1 w z a b c d e (by rw [t1]; exact t3.1) (by rw [t1]; exact t3.2), fun r W Z hp => ?_⟩
  obtain ⟨hr, hu⟩ := hp
  cases hu
  refine ⟨P_X12_feed _ _ a b c d e, c_X12_feed E hM _ _ a b c d e (by (try simp (disch := decide) only [wS_s, wS_t, wB_o, RW, LW, MW]); exact t3.1) (by (try simp (disch := decide) only [wS_s, wS_t, wB_o, RW, LW, MW]); exact t3.2), fun r2 U Y hq => ?_⟩
  obtain ⟨hr2, hu2⟩ := hq
  cases hu2
  refine ⟨?_, J_mk ?_ ?_ ?_ ?_ ?_ ?_ ?_ ?_ ?_ ?_⟩
  · rw [hr, hr2]
    try simp (disch := decide) only [wS_s, wS_t, wB_o, RW, LW, MW]
    rw [t1]
  · try simp (disch := decide) only [wS_s, wS_t, wB_o, RW, LW, MW]
    refine ⟨by rw [t1], ?_, ?_, ?_⟩
    · rw [t1, t2]; simp only [put4_e]
    · split
      · exact ⟨by grind, by grind⟩
      · exact t3
    · split
      · exact put4_b (put4_b (put4_b (put4_b (put4_b t4))))
      · exact t4
  · (try simp (disch := decide) only [wS_s, wS_t, wB_o, RW, LW, MW]); exact hK
  · (try simp (disch := decide) only [wS_s, wS_t, wB_o, RW, LW, MW]); exact hL
  · (try simp (disch := decide) only [wS_s, wS_t, wB_o, RW, LW, MW]); exact hF
  · (try simp (disch := decide) only [wS_s, wS_t, wB_o, RW, LW, MW]); exact hR
  · (try simp (disch := decide) only [wS_s, wS_t, wB_o, RW, LW, MW]); exact hO
  · (try simp (disch := decide) only [wS_s, wS_t, wB_o, RW, LW, MW]); exact hG
  · (try simp (disch := decide) only [wS_s, wS_t, wB_o, RW, LW, MW]); exact hW
  · (try simp (disch := decide) only [wS_s, wS_t, wB_o, RW, LW, MW]); exact hB
  · (try simp (disch := decide) only [wS_s, wS_t, wB_o, RW, LW, MW]); exact hS
set_option maxHeartbeats 1000000 in
theorem s_mended (E : En) (hM : q_okM E) (w : Wi) (z : Wj) (g : Int32) (h : J w z) : Pr M_X11_mended M_X12_mended E [.int g] w z := by
  obtain ⟨hT, hK, hL, hF, hR, hO, hG, hW, hB, hS⟩ := h
  obtain ⟨l1, l2, l3⟩ := lj_b hL
  obtain ⟨t1, t2, t3, t4⟩ := hT
  obtain ⟨kR, kB, kS, kW, kw, ka, kn⟩ := jk_all hK
  have kn1 : 1 ≤ w 1074 0 0 ∧ w 1074 0 0 ≤ 16 := hK.2.1
  have ki := hK.2.2.2.2.1
  have ke : w 500 0 0 = w 1074 0 0 := hK.1.1
  obtain ⟨b1, b2, b3, b4, b5, b6⟩ := hB
  have hB : JB (w 180 0 0) (w 1129 0 0) (z 17 0) (z 65 0) (z 18 0) (z 66 0) (w 19 0) (w 67 0) := ⟨b1, b2, b3, b4, b5, b6⟩
  refine ⟨P_X11_mended w z g, c_X11_mended E hM.1 w z g, fun r W Z hp => ?_⟩
  obtain ⟨hr, hu⟩ := hp
  cases hu
  refine ⟨P_X12_mended _ _ g, c_X12_mended E hM _ _ g (by (try simp (disch := decide) only [wS_s, wS_t, wB_o, RW, LW, MW]); exact b2.1) (by (try simp (disch := decide) only [wS_s, wS_t, wB_o, RW, LW, MW]); exact b2.2), fun r2 U Y hq => ?_⟩
  obtain ⟨hr2, hu2⟩ := hq
  cases hu2
  refine ⟨?_, J_mk ?_ ?_ ?_ ?_ ?_ ?_ ?_ ?_ ?_ ?_⟩
  · rw [hr, hr2]
    try simp (disch := decide) only [wS_s, wS_t, wB_o, RW, LW, MW]
    rw [b1]
    refine ite_cg ?_ rfl rfl
    grind
  · (try simp (disch := decide) only [wS_s, wS_t, wB_o, RW, LW, MW]); exact ⟨t1, t2, t3, t4⟩
  · (try simp (disch := decide) only [wS_s, wS_t, wB_o, RW, LW, MW]); exact hK
  · (try simp (disch := decide) only [wS_s, wS_t, wB_o, RW, LW, MW]); exact hL
  · (try simp (disch := decide) only [wS_s, wS_t, wB_o, RW, LW, MW]); exact hF
  · (try simp (disch := decide) only [wS_s, wS_t, wB_o, RW, LW, MW]); exact hR
  · (try simp (disch := decide) only [wS_s, wS_t, wB_o, RW, LW, MW]); exact hO
  · (try simp (disch := decide) only [wS_s, wS_t, wB_o, RW, LW, MW]); exact hG
  · (try simp (disch := decide) only [wS_s, wS_t, wB_o, RW, LW, MW]); exact hW
  · try simp (disch := decide) only [wS_s, wS_t, wB_o, RW, LW, MW]
    refine ⟨b1, b2, b3, ?_, b5, b6⟩
    rw [b1, b4]
    refine (ite_cg ?_ rfl rfl).symm
    grind
  · (try simp (disch := decide) only [wS_s, wS_t, wB_o, RW, LW, MW]); exact hS
set_option maxHeartbeats 1000000 in
theorem s_suspects (E : En) (hM : q_okM E) (w : Wi) (z : Wj) (d : Int32) (h : J w z) : Pr M_X11_suspects M_X12_suspects E [.int d] w z := by
  obtain ⟨hT, hK, hL, hF, hR, hO, hG, hW, hB, hS⟩ := h
  obtain ⟨l1, l2, l3⟩ := lj_b hL
  obtain ⟨t1, t2, t3, t4⟩ := hT
  obtain ⟨kR, kB, kS, kW, kw, ka, kn⟩ := jk_all hK
  have kn1 : 1 ≤ w 1074 0 0 ∧ w 1074 0 0 ≤ 16 := hK.2.1
  have ki := hK.2.2.2.2.1
  have ke : w 500 0 0 = w 1074 0 0 := hK.1.1
  obtain ⟨b1, b2, b3, b4, b5, b6⟩ := hB
  have hB : JB (w 180 0 0) (w 1129 0 0) (z 17 0) (z 65 0) (z 18 0) (z 66 0) (w 19 0) (w 67 0) := ⟨b1, b2, b3, b4, b5, b6⟩
  refine ⟨P_X11_suspects w z d, c_X11_suspects E hM.1 w z d (by rw [b1]; exact b2.2), fun r W Z hp => ?_⟩
  obtain ⟨hr, hu⟩ := hp
  cases hu
  refine ⟨P_X12_suspects _ _ d, c_X12_suspects E hM _ _ d (by (try simp (disch := decide) only [wS_s, wS_t, wB_o, RW, LW, MW]); exact b2.2) (by (try simp (disch := decide) only [wS_s, wS_t, wB_o, RW, LW, MW]); exact b6), fun r2 U Y hq => ?_⟩
  obtain ⟨hr2, hu2⟩ := hq
  cases hu2
  refine ⟨?_, J_mk ?_ ?_ ?_ ?_ ?_ ?_ ?_ ?_ ?_ ?_⟩
  · rw [hr, hr2]
    try simp (disch := decide) only [wS_s, wS_t, wB_o, RW, LW, MW]
    rw [b1, b3, b4, b5, hS.2.2]
  · (try simp (disch := decide) only [wS_s, wS_t, wB_o, RW, LW, MW]); exact ⟨t1, t2, t3, t4⟩
  · (try simp (disch := decide) only [wS_s, wS_t, wB_o, RW, LW, MW]); exact hK
  · (try simp (disch := decide) only [wS_s, wS_t, wB_o, RW, LW, MW]); exact hL
  · (try simp (disch := decide) only [wS_s, wS_t, wB_o, RW, LW, MW]); exact hF
  · (try simp (disch := decide) only [wS_s, wS_t, wB_o, RW, LW, MW]); exact hR
  · (try simp (disch := decide) only [wS_s, wS_t, wB_o, RW, LW, MW]); exact hO
  · (try simp (disch := decide) only [wS_s, wS_t, wB_o, RW, LW, MW]); exact hG
  · (try simp (disch := decide) only [wS_s, wS_t, wB_o, RW, LW, MW]); exact hW
  · (try simp (disch := decide) only [wS_s, wS_t, wB_o, RW, LW, MW]); exact hB
  · try simp (disch := decide) only [wS_s, wS_t, wB_o, RW, LW, MW]
    obtain ⟨s1, s2, s3⟩ := hS
    rw [b1, b3, b4, b5, s1, s3]
    refine ⟨rfl, ?_, rfl⟩
    split
    · exact s2
    · exact fs_b _ _
set_option maxHeartbeats 1000000 in
theorem s_day (E : En) (hM : q_okM E) (w : Wi) (z : Wj) (hot : Int32) (h : J w z) : Pr M_X11_day M_X12_day E [.int hot] w z := by
  obtain ⟨hT, hK, hL, hF, hR, hO, hG, hW, hB, hS⟩ := h
  obtain ⟨l1, l2, l3⟩ := lj_b hL
  obtain ⟨t1, t2, t3, t4⟩ := hT
  obtain ⟨kR, kB, kS, kW, kw, ka, kn⟩ := jk_all hK
  have kn1 : 1 ≤ w 1074 0 0 ∧ w 1074 0 0 ≤ 16 := hK.2.1
  have ki := hK.2.2.2.2.1
  have ke : w 500 0 0 = w 1074 0 0 := hK.1.1
  obtain ⟨b1, b2, b3, b4, b5, b6⟩ := hB
  have hB : JB (w 180 0 0) (w 1129 0 0) (z 17 0) (z 65 0) (z 18 0) (z 66 0) (w 19 0) (w 67 0) := ⟨b1, b2, b3, b4, b5, b6⟩
  refine ⟨P_X11_day w z hot, c_X11_day E hM.1 w z hot (by rw [t1]; exact t3.1) (by rw [t1]; exact t3.2) (by rw [b1]; exact b2.1), fun r W Z hp => ?_⟩
  obtain ⟨hr, hu⟩ := hp
  cases hu
  refine ⟨P_X12_day _ _ hot, c_X12_day E hM _ _ hot (by (try simp (disch := decide) only [wS_s, wS_t, wB_o, RW, LW, MW]); exact t3.1) (by (try simp (disch := decide) only [wS_s, wS_t, wB_o, RW, LW, MW]); exact t3.2) (by (try simp (disch := decide) only [wS_s, wS_t, wB_o, RW, LW, MW]); exact (fun k _ => (t4 k).1)) (by (try simp (disch := decide) only [wS_s, wS_t, wB_o, RW, LW, MW]); exact b2.1) (by (try simp (disch := decide) only [wS_s, wS_t, wB_o, RW, LW, MW]); exact b2.2), fun r2 U Y hq => ?_⟩
  obtain ⟨hr2, hu2⟩ := hq
  cases hu2
  refine ⟨?_, J_mk ?_ ?_ ?_ ?_ ?_ ?_ ?_ ?_ ?_ ?_⟩
  · rw [hr, hr2]
    try simp (disch := decide) only [wS_s, wS_t, wB_o, RW, LW, MW]
    rw [t1, t2, b1]
    refine ite_cg ?_ rfl rfl
    grind
  · (try simp (disch := decide) only [wS_s, wS_t, wB_o, RW, LW, MW]); exact ⟨rfl, t2, ⟨by decide, by decide⟩, t4⟩
  · (try simp (disch := decide) only [wS_s, wS_t, wB_o, RW, LW, MW]); exact hK
  · (try simp (disch := decide) only [wS_s, wS_t, wB_o, RW, LW, MW]); exact hL
  · (try simp (disch := decide) only [wS_s, wS_t, wB_o, RW, LW, MW]); exact hF
  · (try simp (disch := decide) only [wS_s, wS_t, wB_o, RW, LW, MW]); exact hR
  · (try simp (disch := decide) only [wS_s, wS_t, wB_o, RW, LW, MW]); exact hO
  · (try simp (disch := decide) only [wS_s, wS_t, wB_o, RW, LW, MW]); exact hG
  · (try simp (disch := decide) only [wS_s, wS_t, wB_o, RW, LW, MW]); exact hW
  · try simp (disch := decide) only [wS_s, wS_t, wB_o, RW, LW, MW]
    rw [t1, t2, b1, b3, b4, b5]
    exact day_b b2 b6
  · (try simp (disch := decide) only [wS_s, wS_t, wB_o, RW, LW, MW]); exact hS
set_option maxHeartbeats 1000000 in
theorem s_next (E : En) (hM : q_okM E) (w : Wi) (z : Wj) (h : J w z) : Pr M_X11_next M_X12_next E [] w z := by
  obtain ⟨hT, hK, hL, hF, hR, hO, hG, hW, hB, hS⟩ := h
  obtain ⟨l1, l2, l3⟩ := lj_b hL
  obtain ⟨t1, t2, t3, t4⟩ := hT
  obtain ⟨kR, kB, kS, kW, kw, ka, kn⟩ := jk_all hK
  have kn1 : 1 ≤ w 1074 0 0 ∧ w 1074 0 0 ≤ 16 := hK.2.1
  have ki := hK.2.2.2.2.1
  have ke : w 500 0 0 = w 1074 0 0 := hK.1.1
  obtain ⟨b1, b2, b3, b4, b5, b6⟩ := hB
  have hB : JB (w 180 0 0) (w 1129 0 0) (z 17 0) (z 65 0) (z 18 0) (z 66 0) (w 19 0) (w 67 0) := ⟨b1, b2, b3, b4, b5, b6⟩
  refine ⟨P_X11_next w z, c_X11_next E hM.1 w z (by rw [t1]; exact t3.1) (by rw [t1]; exact t3.2) (by rw [b1]; exact b2.2) (by rw [b1]; exact b2.1), fun r W Z hp => ?_⟩
  obtain ⟨hr, hu⟩ := hp
  cases hu
  refine ⟨P_X12_next _ _, c_X12_next E hM _ _ (by (try simp (disch := decide) only [wS_s, wS_t, wB_o, RW, LW, MW]); exact t3.1) (by (try simp (disch := decide) only [wS_s, wS_t, wB_o, RW, LW, MW]); exact t3.2) (by (try simp (disch := decide) only [wS_s, wS_t, wB_o, RW, LW, MW]); exact (fun k _ => (t4 k).1)) (by (try simp (disch := decide) only [wS_s, wS_t, wB_o, RW, LW, MW]); exact b2.1) (by (try simp (disch := decide) only [wS_s, wS_t, wB_o, RW, LW, MW]); exact b2.2) (by (try simp (disch := decide) only [wS_s, wS_t, wB_o, RW, LW, MW]); exact b6), fun r2 U Y hq => ?_⟩
  obtain ⟨hr2, hu2⟩ := hq
  cases hu2
  refine ⟨?_, J_mk ?_ ?_ ?_ ?_ ?_ ?_ ?_ ?_ ?_ ?_⟩
  · rw [hr, hr2]
    try simp (disch := decide) only [wS_s, wS_t, wB_o, RW, LW, MW]
    rw [t1, t2, b1, b3, b4, b5]
  · (try simp (disch := decide) only [wS_s, wS_t, wB_o, RW, LW, MW]); exact ⟨rfl, t2, ⟨by decide, by decide⟩, t4⟩
  · (try simp (disch := decide) only [wS_s, wS_t, wB_o, RW, LW, MW]); exact hK
  · (try simp (disch := decide) only [wS_s, wS_t, wB_o, RW, LW, MW]); exact hL
  · (try simp (disch := decide) only [wS_s, wS_t, wB_o, RW, LW, MW]); exact hF
  · (try simp (disch := decide) only [wS_s, wS_t, wB_o, RW, LW, MW]); exact hR
  · (try simp (disch := decide) only [wS_s, wS_t, wB_o, RW, LW, MW]); exact hO
  · (try simp (disch := decide) only [wS_s, wS_t, wB_o, RW, LW, MW]); exact hG
  · (try simp (disch := decide) only [wS_s, wS_t, wB_o, RW, LW, MW]); exact hW
  · (try simp (disch := decide) only [wS_s, wS_t, wB_o, RW, LW, MW]); exact hB
  · (try simp (disch := decide) only [wS_s, wS_t, wB_o, RW, LW, MW]); exact hS
