theorem ir_g {g sp sn : Int32} (h : ¬ irF g sp sn = 0) : ((-40) ≤ g ∧ g ≤ 40) ∧ (0 ≤ sp ∧ sp ≤ 3000) ∧ (0 ≤ sn ∧ sn ≤ 90) := by
  simp only [irF] at h
  by_cases c : ((-40) ≤ g ∧ g ≤ 40) ∧ (0 ≤ sp ∧ sp ≤ 3000) ∧ (0 ≤ sn ∧ sn ≤ 90)
  · exact c
  · rw [if_neg c] at h; exact absurd rfl h
theorem heG_re {R S : RK} (h : RE R S) (L : LV) (c : Int32) : ∀ (m : Nat) (t : Int32) (x : PTC), heG R L c m t x = heG S L c m t x := by
  intro m
  induction m with
  | zero => intro t x; rfl
  | succ m ih => intro t x; simp only [heG]; rw [tkG_re h, ih]
theorem heG_pa {R : RK} (h1 : 1 ≤ R.1) (h2 : R.1 ≤ 16) (L : LV) {c : Int32} (hc : c.toNatClampNeg < (R.1 + 1).toNatClampNeg) : ∀ (m : Nat) (t : Int32) {x y : PTC}, PA (R.1 + 1).toNatClampNeg x y → heG R L c m t x = heG R L c m t y := by
  intro m
  induction m with
  | zero => intro t x y _; rfl
  | succ m ih =>
    intro t x y h
    have k := tkG_pa h1 h2 L 601 0 601 t h
    simp only [heG]
    rw [k.2.2 _ hc, ih (t + 1) k]
theorem ea2_re {R S : RK} (h : RE R S) (L : LV) : ∀ (m : Nat) (t hd : Int32) (x : PTC), ea2 R L m t hd x = ea2 S L m t hd x := by
  intro m
  induction m with
  | zero => intro t hd x; rfl
  | succ m ih => intro t hd x; simp only [ea2]; rw [tkG_re h, h.1, ih]
theorem ea2_pa {R : RK} (h1 : 1 ≤ R.1) (h2 : R.1 ≤ 16) (L : LV) : ∀ (m : Nat) (t hd : Int32) {x y : PTC}, PA (R.1 + 1).toNatClampNeg x y → ea2 R L m t hd x = ea2 R L m t hd y := by
  intro m
  induction m with
  | zero => intro t hd x y _; rfl
  | succ m ih =>
    intro t hd x y h
    have k := tkG_pa h1 h2 L 601 0 601 t h
    simp only [ea2]
    rw [anyR_agn k.2.2, ih (t + 1) _ k]
theorem c0_re {R S : RK} (h : RE R S) : c0G R = c0G S := by simp only [c0G]; rw [h.2.1]
theorem cl_nn {c n : Int32} (h0 : 0 ≤ c) (h1 : c ≤ n) (h2 : n ≤ 16) : c.toNatClampNeg < (n + 1).toNatClampNeg := (cl_lt h0 (by grind)).mpr (by grind)
/-- the reference's tuple, whatever lay behind the cars -/
abbrev KK (n fu fe : Int32) (a b c d e f t o : Row) : RK := (n, fu, fe, tkR a t 0 o n.toNatClampNeg, tkR b t 64 o n.toNatClampNeg, tkR c t 96 o n.toNatClampNeg, tkR d t 128 o n.toNatClampNeg, tkR e t 160 o n.toNatClampNeg, tkR f t 192 o n.toNatClampNeg)
section KJ
variable {R : RK} {wt : Row} {n fu fe i : Int32} {q o : Row} {L M : LV}
theorem kk_re (hK : JK R wt n fu fe i q o) (a b c d e f : Row) : RE R (KK n fu fe a b c d e f (L7 q i) o) := by
  have h1 := (jk_all hK).1
  have h2 := rkT_re (n := n) (full := fu) (fed := fe) hK.2.1.1 hK.2.1.2 a b c d e f (L7 q i) o
  obtain ⟨a1, a2, a3, a4, a5, a6, a7, a8, a9⟩ := h1
  obtain ⟨b1, b2, b3, b4, b5, b6, b7, b8, b9⟩ := h2
  have e : R.1 = n := hK.1.1
  refine ⟨a1, a2, a3, ?_, ?_, ?_, ?_, ?_, ?_⟩
  · intro k k1 k2; rw [a4 k k1 k2]; exact (b4 k k1 (by rw [e] at k2; exact k2)).symm
  · intro k k1 k2; rw [a5 k k1 k2]; exact (b5 k k1 (by rw [e] at k2; exact k2)).symm
  · intro k k1 k2; rw [a6 k k1 k2]; exact (b6 k k1 (by rw [e] at k2; exact k2)).symm
  · intro k k1 k2; rw [a7 k k1 k2]; exact (b7 k k1 (by rw [e] at k2; exact k2)).symm
  · intro k k1 k2; rw [a8 k k1 k2]; exact (b8 k k1 (by rw [e] at k2; exact k2)).symm
  · intro k k1 k2; rw [a9 k k1 k2]; exact (b9 k k1 (by rw [e] at k2; exact k2)).symm
theorem kk_pl (hK : JK R wt n fu fe i q o) (hL : LJ L M) (a b c d e f p t y : Row) {m : Nat} (hm : m ≤ 600) : PA (n + 1).toNatClampNeg ((itA R L m (st0 R.2.1)).1, (itA R L m (st0 R.2.1)).2.2.1, (itA R L m (st0 R.2.1)).2.2.2.1) (plG (KK n fu fe a b c d e f (L7 q i) o) M 601 0 601 m 1 (bgG (KK n fu fe a b c d e f (L7 q i) o) p t y)) := by
  have hR := kk_re hK a b c d e f
  have h1 := it_pl (jk_all hK).2.1 hL (m := m) hm
  rw [plG_re hR, c0_re hR, hK.1.1] at h1
  exact h1.tr (plG_pa (R := KK n fu fe a b c d e f (L7 q i) o) hK.2.1.1 hK.2.1.2 M 601 0 601 m 1 (bgG_pa (KK n fu fe a b c d e f (L7 q i) o) p t y).sm)
theorem kk_at (hK : JK R wt n fu fe i q o) (hL : LJ L M) (a b c d e f p t y : Row) {ti ce wh : Int32} (h1 : 0 ≤ ti) (h2 : ti ≤ 600) (h3 : 0 ≤ ce) (h4 : ce ≤ n) : atV (itA R L ti.toNatClampNeg (st0 R.2.1)) wh ce = if wh = 0 then (plG (KK n fu fe a b c d e f (L7 q i) o) M 601 0 601 ti.toNatClampNeg 1 (bgG (KK n fu fe a b c d e f (L7 q i) o) p t y)).1 ce.toNatClampNeg else if wh = 1 then (plG (KK n fu fe a b c d e f (L7 q i) o) M 601 0 601 ti.toNatClampNeg 1 (bgG (KK n fu fe a b c d e f (L7 q i) o) p t y)).2.1 ce.toNatClampNeg else (plG (KK n fu fe a b c d e f (L7 q i) o) M 601 0 601 ti.toNatClampNeg 1 (bgG (KK n fu fe a b c d e f (L7 q i) o) p t y)).2.2 ce.toNatClampNeg := by
  have hm : ti.toNatClampNeg ≤ 600 := (cl_le h1 (show (0 : Int32) ≤ 600 by decide)).mpr h2
  have k := kk_pl hK hL a b c d e f p t y hm
  have hc := cl_nn h3 h4 hK.2.1.2
  simp only [atV]
  rw [show (itA R L ti.toNatClampNeg (st0 R.2.1)).1 ce.toNatClampNeg = _ from k.1 _ hc, show (itA R L ti.toNatClampNeg (st0 R.2.1)).2.2.1 ce.toNatClampNeg = _ from k.2.1 _ hc, show (itA R L ti.toNatClampNeg (st0 R.2.1)).2.2.2.1 ce.toNatClampNeg = _ from k.2.2 _ hc]
theorem kk_he (hK : JK R wt n fu fe i q o) (hL : LJ L M) (a b c d e f p t y : Row) {ce : Int32} (h3 : 1 ≤ ce) (h4 : ce ≤ n) : heR R L ce 600 1 (st0 R.2.1) = heG (KK n fu fe a b c d e f (L7 q i) o) M ce 600 1 (bgG (KK n fu fe a b c d e f (L7 q i) o) p t y) := by
  have hR := kk_re hK a b c d e f
  have hB := (jk_all hK).2.1
  have h1 := he_e hB hL h3 (by rw [hK.1.1]; exact h4) 600 0 (by omega) (AR_st hB hL)
  rw [heG_re hR, c0_re hR] at h1
  exact h1.trans (heG_pa (R := KK n fu fe a b c d e f (L7 q i) o) hK.2.1.1 hK.2.1.2 M (cl_nn (by grind) h4 hK.2.1.2) 600 1 (bgG_pa (KK n fu fe a b c d e f (L7 q i) o) p t y).sm)
theorem kk_ea (hK : JK R wt n fu fe i q o) (hL : LJ L M) (a b c d e f p t y : Row) : eaR R L 600 1 0 (st0 R.2.1) = ea2 (KK n fu fe a b c d e f (L7 q i) o) M 600 1 0 (bgG (KK n fu fe a b c d e f (L7 q i) o) p t y) := by
  have hR := kk_re hK a b c d e f
  have hB := (jk_all hK).2.1
  have h1 := ea_e hB hL 600 0 0 (by omega) (AR_st hB hL)
  rw [ea2_re hR, c0_re hR] at h1
  exact h1.trans (ea2_pa (R := KK n fu fe a b c d e f (L7 q i) o) hK.2.1.1 hK.2.1.2 M 600 1 0 (bgG_pa (KK n fu fe a b c d e f (L7 q i) o) p t y).sm)
theorem kk_run (hK : JK R wt n fu fe i q o) (hL : LJ L M) (a b c d e f p t y : Row) {g sp sn : Int32} (hi : ¬ irF g sp sn = 0) : runV NOL R wt L g sp sn = spV (spG (KK n fu fe a b c d e f (L7 q i) o) (wgR (L7 q i) o n.toNatClampNeg) M 601 0 601 g sn 600 (sp0 (KK n fu fe a b c d e f (L7 q i) o) sp p t y)) := by
  obtain ⟨kR, kB, kS, kW, kw, ka, kn⟩ := jk_all hK
  obtain ⟨i1, i2, i3⟩ := ir_g hi
  rw [run_e kB hL kW ⟨kw, i1, i3⟩ i2, cap_NOL, spC_re kR]
  exact (spV_sa (spT hK.2.1.1 hK.2.1.2 a b c d e f (L7 q i) o p t y _ M 601 0 601 g sp sn)).symm
theorem kk_par (hK : JK R wt n fu fe i q o) (hL : LJ L M) (a b c d e f p t y : Row) {k tk g sp sn : Int32} (hk : 1 ≤ k) (hi : ¬ irF g sp sn = 0) : runP NOL R wt L k tk g sp sn = spV (spG (KK n fu fe a b c d e f (L7 q i) o) (wgR (L7 q i) o n.toNatClampNeg) M 601 k tk g sn 600 (sp0 (KK n fu fe a b c d e f (L7 q i) o) sp p t y)) := by
  obtain ⟨kR, kB, kS, kW, kw, ka, kn⟩ := jk_all hK
  obtain ⟨i1, i2, i3⟩ := ir_g hi
  rw [runP_e kB hL kW ⟨kw, i1, i3⟩ i2 hk, cap_NOL, spC_re kR]
  exact (spV_sa (spT hK.2.1.1 hK.2.1.2 a b c d e f (L7 q i) o p t y _ M 601 k tk g sp sn)).symm
theorem kk_ran (hK : JK R wt n fu fe i q o) (hL : LJ L M) (a b c d e f p t y : Row) {g sp sn : Int32} (hi : ¬ irF g sp sn = 0) :
    (spanX NOL R wt L 600 (st0 R.2.1, rd0 g sp sn)).2.2.2.2.2.2.1 = (spG (KK n fu fe a b c d e f (L7 q i) o) (wgR (L7 q i) o n.toNatClampNeg) M 601 0 601 g sn 600 (sp0 (KK n fu fe a b c d e f (L7 q i) o) sp p t y)).1 ∧ (spanX NOL R wt L 600 (st0 R.2.1, rd0 g sp sn)).2.2.2.2.2.2.2 = (spG (KK n fu fe a b c d e f (L7 q i) o) (wgR (L7 q i) o n.toNatClampNeg) M 601 0 601 g sn 600 (sp0 (KK n fu fe a b c d e f (L7 q i) o) sp p t y)).2.2.2.1 ∧ (spanX NOL R wt L 600 (st0 R.2.1, rd0 g sp sn)).2.2.2.2.2.1 = (spG (KK n fu fe a b c d e f (L7 q i) o) (wgR (L7 q i) o n.toNatClampNeg) M 601 0 601 g sn 600 (sp0 (KK n fu fe a b c d e f (L7 q i) o) sp p t y)).2.1 := by
  obtain ⟨kR, kB, kS, kW, kw, ka, kn⟩ := jk_all hK
  obtain ⟨i1, i2, i3⟩ := ir_g hi
  obtain ⟨r1, r2, r3⟩ := ran_e kB hL kW ⟨kw, i1, i3⟩ i2
  rw [spC_re kR] at r1 r2 r3
  obtain ⟨s1, s2, s3, s4, s5⟩ := spT hK.2.1.1 hK.2.1.2 a b c d e f (L7 q i) o p t y (wgR (L7 q i) o n.toNatClampNeg) M 601 0 601 g sp sn
  exact ⟨r1.trans s1.symm, r3.trans s4.symm, r2.trans s2.symm⟩
theorem kk_help (hK : JK R wt n fu fe i q o) (hL : LJ L M) {m g sp sn : Int32} (hi : ¬ irF g sp sn = 0) : helpR m R wt L 401 0 (-1) (st0 R.2.1, rd0 g sp sn) = hpR (fun t_ => spV (spC (rkT n fu fe (L7 q i) o) (wgR (L7 q i) o n.toNatClampNeg) M (nI t_ + 1) 0 601 g sp sn)) m 401 := by
  obtain ⟨kR, kB, kS, kW, kw, ka, kn⟩ := jk_all hK
  obtain ⟨i1, i2, i3⟩ := ir_g hi
  refine help_e kB hL kW ⟨kw, i1, i3⟩ _ 401 0 (by omega) (SJ_0 kB hL bJ_no i2) rfl (fun j _ hj => ?_)
  show spV (spC _ _ _ _ _ _ _ _ _) = _
  rw [← spC_re kR]
  rfl
end KJ

set_option maxHeartbeats 1000000 in
theorem s_hears (E : En) (hM : q_okM E) (w : Wi) (z : Wj) (c : Int32) (h : J w z) : Pr M_X11_hears M_X12_hears E [.int c] w z := by
  obtain ⟨hT, hK, hL, hF, hR, hO, hG, hW, hB, hS⟩ := h
  obtain ⟨l1, l2, l3⟩ := lj_b hL
  obtain ⟨t1, t2, t3, t4⟩ := hT
  obtain ⟨kR, kB, kS, kW, kw, ka, kn⟩ := jk_all hK
  have kn1 : 1 ≤ w 1074 0 0 ∧ w 1074 0 0 ≤ 16 := hK.2.1
  have ki := hK.2.2.2.2.1
  have ke : w 500 0 0 = w 1074 0 0 := hK.1.1
  refine ⟨P_X11_hears w z c, c_X11_hears E hM.1 w z c (by rw [ke]; grind) (by rw [ke]; exact kn1.2), fun r W Z hp => ?_⟩
  obtain ⟨uh, hr, hu⟩ := hp
  cases hu
  refine ⟨P_X12_hears _ _ c, c_X12_hears E hM _ _ c (by (try simp (disch := decide) only [wS_s, wS_t, wB_o, RW, LW, MW]); exact kn1.1) (by (try simp (disch := decide) only [wS_s, wS_t, wB_o, RW, LW, MW]); exact kn1.2) (by (try simp (disch := decide) only [wS_s, wS_t, wB_o, RW, LW, MW]); exact ki) (by (try simp (disch := decide) only [wS_s, wS_t, wB_o, RW, LW, MW]); exact l2) (by (try simp (disch := decide) only [wS_s, wS_t, wB_o, RW, LW, MW]); exact l3) (by (try simp (disch := decide) only [wS_s, wS_t, wB_o, RW, LW, MW]); exact ka), fun r2 U Y hq => ?_⟩
  obtain ⟨uh2, hr2, hu2⟩ := hq
  cases hu2
  refine ⟨?_, J_mk ?_ ?_ ?_ ?_ ?_ ?_ ?_ ?_ ?_ ?_⟩
  · rw [hr, hr2]
    try simp (disch := decide) only [wS_s, wS_t, wB_o, RW, LW, MW]
    by_cases q : 1 ≤ c ∧ c ≤ w 1074 0 0
    · have q2 : 1 ≤ c ∧ c ≤ w 500 0 0 := by rw [ke]; exact q
      rw [if_pos q, if_pos q2]; exact (kk_he hK hL _ _ _ _ _ _ _ _ _ q.1 q.2).symm
    · have q2 : ¬ (1 ≤ c ∧ c ≤ w 500 0 0) := by rw [ke]; exact q
      rw [if_neg q, if_neg q2]
  · (try simp (disch := decide) only [wS_s, wS_t, wB_o, RW, LW, MW]); exact ⟨t1, t2, t3, t4⟩
  · (try simp (disch := decide) only [wS_s, wS_t, wB_o, RW, LW, MW]); exact jk_lay hK
  · (try simp (disch := decide) only [wS_s, wS_t, wB_o, RW, LW, MW]); exact hL
  · (try simp (disch := decide) only [wS_s, wS_t, wB_o, RW, LW, MW]); exact hF
  · (try simp (disch := decide) only [wS_s, wS_t, wB_o, RW, LW, MW]); exact hR
  · (try simp (disch := decide) only [wS_s, wS_t, wB_o, RW, LW, MW]); exact hO
  · (try simp (disch := decide) only [wS_s, wS_t, wB_o, RW, LW, MW]); exact hG
  · (try simp (disch := decide) only [wS_s, wS_t, wB_o, RW, LW, MW]); exact hW
  · (try simp (disch := decide) only [wS_s, wS_t, wB_o, RW, LW, MW]); exact hB
  · (try simp (disch := decide) only [wS_s, wS_t, wB_o, RW, LW, MW]); exact hS
set_option maxHeartbeats 1000000 in
theorem s_easy (E : En) (hM : q_okM E) (w : Wi) (z : Wj) (h : J w z) : Pr M_X11_easy M_X12_easy E [] w z := by
  obtain ⟨hT, hK, hL, hF, hR, hO, hG, hW, hB, hS⟩ := h
  obtain ⟨l1, l2, l3⟩ := lj_b hL
  obtain ⟨t1, t2, t3, t4⟩ := hT
  obtain ⟨kR, kB, kS, kW, kw, ka, kn⟩ := jk_all hK
  have kn1 : 1 ≤ w 1074 0 0 ∧ w 1074 0 0 ≤ 16 := hK.2.1
  have ki := hK.2.2.2.2.1
  have ke : w 500 0 0 = w 1074 0 0 := hK.1.1
  refine ⟨P_X11_easy w z, c_X11_easy E hM.1 w z (by rw [ke]; grind) (by rw [ke]; exact kn1.2), fun r W Z hp => ?_⟩
  obtain ⟨uh, hr, hu⟩ := hp
  cases hu
  refine ⟨P_X12_easy _ _, c_X12_easy E hM _ _ (by (try simp (disch := decide) only [wS_s, wS_t, wB_o, RW, LW, MW]); exact kn1.1) (by (try simp (disch := decide) only [wS_s, wS_t, wB_o, RW, LW, MW]); exact kn1.2) (by (try simp (disch := decide) only [wS_s, wS_t, wB_o, RW, LW, MW]); exact ki) (by (try simp (disch := decide) only [wS_s, wS_t, wB_o, RW, LW, MW]); exact l2) (by (try simp (disch := decide) only [wS_s, wS_t, wB_o, RW, LW, MW]); exact l3) (by (try simp (disch := decide) only [wS_s, wS_t, wB_o, RW, LW, MW]); exact ka), fun r2 U Y hq => ?_⟩
  obtain ⟨uh2, hr2, hu2⟩ := hq
  cases hu2
  refine ⟨?_, J_mk ?_ ?_ ?_ ?_ ?_ ?_ ?_ ?_ ?_ ?_⟩
  · rw [hr, hr2]
    try simp (disch := decide) only [wS_s, wS_t, wB_o, RW, LW, MW]
    exact (kk_ea hK hL _ _ _ _ _ _ _ _ _).symm
  · (try simp (disch := decide) only [wS_s, wS_t, wB_o, RW, LW, MW]); exact ⟨t1, t2, t3, t4⟩
  · (try simp (disch := decide) only [wS_s, wS_t, wB_o, RW, LW, MW]); exact jk_lay hK
  · (try simp (disch := decide) only [wS_s, wS_t, wB_o, RW, LW, MW]); exact hL
  · (try simp (disch := decide) only [wS_s, wS_t, wB_o, RW, LW, MW]); exact hF
  · (try simp (disch := decide) only [wS_s, wS_t, wB_o, RW, LW, MW]); exact hR
  · (try simp (disch := decide) only [wS_s, wS_t, wB_o, RW, LW, MW]); exact hO
  · (try simp (disch := decide) only [wS_s, wS_t, wB_o, RW, LW, MW]); exact hG
  · (try simp (disch := decide) only [wS_s, wS_t, wB_o, RW, LW, MW]); exact hW
  · (try simp (disch := decide) only [wS_s, wS_t, wB_o, RW, LW, MW]); exact hB
  · (try simp (disch := decide) only [wS_s, wS_t, wB_o, RW, LW, MW]); exact hS
set_option maxHeartbeats 1000000 in
theorem s_run (E : En) (hM : q_okM E) (w : Wi) (z : Wj) (g : Int32) (sp : Int32) (sn : Int32) (h : J w z) : Pr M_X11_run M_X12_run E [.int g, .int sp, .int sn] w z := by
  obtain ⟨hT, hK, hL, hF, hR, hO, hG, hW, hB, hS⟩ := h
  obtain ⟨l1, l2, l3⟩ := lj_b hL
  obtain ⟨t1, t2, t3, t4⟩ := hT
  obtain ⟨kR, kB, kS, kW, kw, ka, kn⟩ := jk_all hK
  have kn1 : 1 ≤ w 1074 0 0 ∧ w 1074 0 0 ≤ 16 := hK.2.1
  have ki := hK.2.2.2.2.1
  have ke : w 500 0 0 = w 1074 0 0 := hK.1.1
  refine ⟨P_X11_run w z g sp sn, c_X11_run E hM.1 w z g sp sn (by rw [ke]; grind) (by rw [ke]; exact kn1.2), fun r W Z hp => ?_⟩
  obtain ⟨uh, hr, hu⟩ := hp
  cases hu
  refine ⟨P_X12_run _ _ g sp sn, c_X12_run E hM _ _ g sp sn (by (try simp (disch := decide) only [wS_s, wS_t, wB_o, RW, LW, MW]); exact kn1.1) (by (try simp (disch := decide) only [wS_s, wS_t, wB_o, RW, LW, MW]); exact kn1.2) (by (try simp (disch := decide) only [wS_s, wS_t, wB_o, RW, LW, MW]); exact ki) (by (try simp (disch := decide) only [wS_s, wS_t, wB_o, RW, LW, MW]); exact l2) (by (try simp (disch := decide) only [wS_s, wS_t, wB_o, RW, LW, MW]); exact l3) (by (try simp (disch := decide) only [wS_s, wS_t, wB_o, RW, LW, MW]); exact ka) (by (try simp (disch := decide) only [wS_s, wS_t, wB_o, RW, LW, MW]); exact kn), fun r2 U Y hq => ?_⟩
  obtain ⟨uh2, hr2, hu2⟩ := hq
  cases hu2
  refine ⟨?_, J_mk ?_ ?_ ?_ ?_ ?_ ?_ ?_ ?_ ?_ ?_⟩
  · rw [hr, hr2]
    try simp (disch := decide) only [wS_s, wS_t, wB_o, RW, LW, MW]
    by_cases q : irF g sp sn = 0
    · rw [if_pos q, if_pos q]
    · rw [if_neg q, if_neg q]; exact (kk_run hK hL _ _ _ _ _ _ _ _ _ q).symm
  · (try simp (disch := decide) only [wS_s, wS_t, wB_o, RW, LW, MW]); exact ⟨t1, t2, t3, t4⟩
  · (try simp (disch := decide) only [wS_s, wS_t, wB_o, RW, LW, MW]); exact jk_if hK
  · (try simp (disch := decide) only [wS_s, wS_t, wB_o, RW, LW, MW]); exact hL
  · (try simp (disch := decide) only [wS_s, wS_t, wB_o, RW, LW, MW]); exact hF
  · try simp (disch := decide) only [wS_s, wS_t, wB_o, RW, LW, MW]
    by_cases q : irF g sp sn = 0
    · simp only [if_pos q]; exact hR
    · simp only [if_neg q]
      obtain ⟨a1, a2, a3⟩ := kk_ran hK hL (w 46 0) (w 47 0) (w 48 0) (w 49 0) (w 50 0) (w 51 0) (w 52 0) (w 53 0) (w 54 0) q
      exact ⟨rfl, fun _ => ⟨a1, a2, a3⟩⟩
  · (try simp (disch := decide) only [wS_s, wS_t, wB_o, RW, LW, MW]); exact hO
  · (try simp (disch := decide) only [wS_s, wS_t, wB_o, RW, LW, MW]); exact hG
  · (try simp (disch := decide) only [wS_s, wS_t, wB_o, RW, LW, MW]); exact hW
  · (try simp (disch := decide) only [wS_s, wS_t, wB_o, RW, LW, MW]); exact hB
  · (try simp (disch := decide) only [wS_s, wS_t, wB_o, RW, LW, MW]); exact hS
set_option maxHeartbeats 1000000 in
theorem s_help (E : En) (hM : q_okM E) (w : Wi) (z : Wj) (g : Int32) (sp : Int32) (sn : Int32) (m : Int32) (h : J w z) : Pr M_X11_help M_X12_help E [.int g, .int sp, .int sn, .int m] w z := by
  obtain ⟨hT, hK, hL, hF, hR, hO, hG, hW, hB, hS⟩ := h
  obtain ⟨l1, l2, l3⟩ := lj_b hL
  obtain ⟨t1, t2, t3, t4⟩ := hT
  obtain ⟨kR, kB, kS, kW, kw, ka, kn⟩ := jk_all hK
  have kn1 : 1 ≤ w 1074 0 0 ∧ w 1074 0 0 ≤ 16 := hK.2.1
  have ki := hK.2.2.2.2.1
  have ke : w 500 0 0 = w 1074 0 0 := hK.1.1
  refine ⟨P_X11_help w z g sp sn m, c_X11_help E hM.1 w z g sp sn m (by rw [ke]; grind) (by rw [ke]; exact kn1.2), fun r W Z hp => ?_⟩
  obtain ⟨uh, hr, hu⟩ := hp
  cases hu
  refine ⟨P_X12_help _ _ g sp sn m, c_X12_help E hM _ _ g sp sn m (by (try simp (disch := decide) only [wS_s, wS_t, wB_o, RW, LW, MW]); exact kn1.1) (by (try simp (disch := decide) only [wS_s, wS_t, wB_o, RW, LW, MW]); exact kn1.2) (by (try simp (disch := decide) only [wS_s, wS_t, wB_o, RW, LW, MW]); exact ki) (by (try simp (disch := decide) only [wS_s, wS_t, wB_o, RW, LW, MW]); exact l2) (by (try simp (disch := decide) only [wS_s, wS_t, wB_o, RW, LW, MW]); exact l3) (by (try simp (disch := decide) only [wS_s, wS_t, wB_o, RW, LW, MW]); exact ka) (by (try simp (disch := decide) only [wS_s, wS_t, wB_o, RW, LW, MW]); exact kn), fun r2 U Y hq => ?_⟩
  obtain ⟨uh2, hr2, hu2⟩ := hq
  cases hu2
  refine ⟨?_, J_mk ?_ ?_ ?_ ?_ ?_ ?_ ?_ ?_ ?_ ?_⟩
  · rw [hr, hr2]
    try simp (disch := decide) only [wS_s, wS_t, wB_o, RW, LW, MW]
    by_cases q : irF g sp sn = 0 ∨ m < 0
    · rw [if_pos q, if_pos q]
    · rw [if_neg q, if_neg q]; exact (kk_help hK hL (fun z => q (Or.inl z))).symm
  · (try simp (disch := decide) only [wS_s, wS_t, wB_o, RW, LW, MW]); exact ⟨t1, t2, t3, t4⟩
  · (try simp (disch := decide) only [wS_s, wS_t, wB_o, RW, LW, MW]); exact jk_if hK
  · (try simp (disch := decide) only [wS_s, wS_t, wB_o, RW, LW, MW]); exact hL
  · (try simp (disch := decide) only [wS_s, wS_t, wB_o, RW, LW, MW]); exact hF
  · (try simp (disch := decide) only [wS_s, wS_t, wB_o, RW, LW, MW]); exact hR
  · (try simp (disch := decide) only [wS_s, wS_t, wB_o, RW, LW, MW]); exact hO
  · (try simp (disch := decide) only [wS_s, wS_t, wB_o, RW, LW, MW]); exact hG
  · (try simp (disch := decide) only [wS_s, wS_t, wB_o, RW, LW, MW]); exact hW
  · (try simp (disch := decide) only [wS_s, wS_t, wB_o, RW, LW, MW]); exact hB
  · (try simp (disch := decide) only [wS_s, wS_t, wB_o, RW, LW, MW]); exact hS
set_option maxHeartbeats 1000000 in
theorem s_parted (E : En) (hM : q_okM E) (w : Wi) (z : Wj) (k : Int32) (ti : Int32) (g : Int32) (sp : Int32) (sn : Int32) (h : J w z) : Pr M_X11_parted M_X12_parted E [.int k, .int ti, .int g, .int sp, .int sn] w z := by
  obtain ⟨hT, hK, hL, hF, hR, hO, hG, hW, hB, hS⟩ := h
  obtain ⟨l1, l2, l3⟩ := lj_b hL
  obtain ⟨t1, t2, t3, t4⟩ := hT
  obtain ⟨kR, kB, kS, kW, kw, ka, kn⟩ := jk_all hK
  have kn1 : 1 ≤ w 1074 0 0 ∧ w 1074 0 0 ≤ 16 := hK.2.1
  have ki := hK.2.2.2.2.1
  have ke : w 500 0 0 = w 1074 0 0 := hK.1.1
  refine ⟨P_X11_parted w z k ti g sp sn, c_X11_parted E hM.1 w z k ti g sp sn (by rw [ke]; grind) (by rw [ke]; exact kn1.2), fun r W Z hp => ?_⟩
  obtain ⟨uh, hr, hu⟩ := hp
  cases hu
  refine ⟨P_X12_parted _ _ k ti g sp sn, c_X12_parted E hM _ _ k ti g sp sn (by (try simp (disch := decide) only [wS_s, wS_t, wB_o, RW, LW, MW]); exact kn1.1) (by (try simp (disch := decide) only [wS_s, wS_t, wB_o, RW, LW, MW]); exact kn1.2) (by (try simp (disch := decide) only [wS_s, wS_t, wB_o, RW, LW, MW]); exact ki) (by (try simp (disch := decide) only [wS_s, wS_t, wB_o, RW, LW, MW]); exact l2) (by (try simp (disch := decide) only [wS_s, wS_t, wB_o, RW, LW, MW]); exact l3) (by (try simp (disch := decide) only [wS_s, wS_t, wB_o, RW, LW, MW]); exact ka) (by (try simp (disch := decide) only [wS_s, wS_t, wB_o, RW, LW, MW]); exact kn), fun r2 U Y hq => ?_⟩
  obtain ⟨uh2, hr2, hu2⟩ := hq
  cases hu2
  refine ⟨?_, J_mk ?_ ?_ ?_ ?_ ?_ ?_ ?_ ?_ ?_ ?_⟩
  · rw [hr, hr2]
    try simp (disch := decide) only [wS_s, wS_t, wB_o, RW, LW, MW]
    by_cases q : ¬ (1 ≤ k ∧ k < w 500 0 0 ∧ 1 ≤ ti ∧ ti ≤ 600) ∨ irF g sp sn = 0
    · have q2 : ¬ ((1 ≤ k ∧ k ≤ w 1074 0 0 - 1) ∧ (1 ≤ ti ∧ ti ≤ 600)) ∨ irF g sp sn = 0 := by rw [ke] at q; clear hK hL hR kR kB kS kW kw ka kn hr hr2; grind
      rw [if_pos q, if_pos q2]
    · have q2 : ¬ (¬ ((1 ≤ k ∧ k ≤ w 1074 0 0 - 1) ∧ (1 ≤ ti ∧ ti ≤ 600)) ∨ irF g sp sn = 0) := by rw [ke] at q; clear hK hL hR kR kB kS kW kw ka kn hr hr2; grind
      rw [if_neg q, if_neg q2]; exact (kk_par hK hL _ _ _ _ _ _ _ _ _ (by grind) (fun z => q (Or.inr z))).symm
  · (try simp (disch := decide) only [wS_s, wS_t, wB_o, RW, LW, MW]); exact ⟨t1, t2, t3, t4⟩
  · (try simp (disch := decide) only [wS_s, wS_t, wB_o, RW, LW, MW]); exact jk_lay hK
  · (try simp (disch := decide) only [wS_s, wS_t, wB_o, RW, LW, MW]); exact hL
  · (try simp (disch := decide) only [wS_s, wS_t, wB_o, RW, LW, MW]); exact hF
  · (try simp (disch := decide) only [wS_s, wS_t, wB_o, RW, LW, MW]); exact hR
  · (try simp (disch := decide) only [wS_s, wS_t, wB_o, RW, LW, MW]); exact hO
  · (try simp (disch := decide) only [wS_s, wS_t, wB_o, RW, LW, MW]); exact hG
  · (try simp (disch := decide) only [wS_s, wS_t, wB_o, RW, LW, MW]); exact hW
  · (try simp (disch := decide) only [wS_s, wS_t, wB_o, RW, LW, MW]); exact hB
  · (try simp (disch := decide) only [wS_s, wS_t, wB_o, RW, LW, MW]); exact hS
