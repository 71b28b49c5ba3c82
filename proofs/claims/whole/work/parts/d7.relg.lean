/-! car and at: who throws, what they answer -/
def PrX (P1 : Int32 → WW → Prop) (M2 : Md) (E : En) (As : List Value) : Prop := ∀ r W Z, P1 r (W, Z) → (r = 0 ∨ r = 1) ∧ ∃ P2, CtI M2 E (.ref (E.ad 12 0) :: As) W Z P2 ∧ ∀ r2 U Y, P2 r2 (U, Y) → J U Y ∧ U 1060 0 0 = r ∧ (r = 0 → Y 72 0 0 = r2.toInt64)
set_option maxHeartbeats 1000000 in
theorem J_z {w : Wi} {z : Wj} {f : Nat → Int64} (h : J w z) : J w (wS z 72 0 f) := by
  obtain ⟨hT, hK, hL, hF, hR, hO, hG, hW, hB, hS⟩ := h
  refine J_mk hT hK hL hF hR hO hG hW ?_ hS
  simp (disch := decide) only [wS_t]; exact hB
set_option maxHeartbeats 1000000 in
theorem car_e {w : Wi} {z : Wj} (h : J w z) {c wh : Int32} (hc : 1 ≤ c ∧ c ≤ w 1074 0 0) (h0 : 0 ≤ wh) (h6 : wh ≤ 6) : carV w c wh = (L7 (w 42 0) (w 1080 0 0)) (32 * wh + c - 1).toNatClampNeg := by
  obtain ⟨hT, hK, hL, hF, hR, hO, hG, hW, hB, hS⟩ := h
  have ke : w 500 0 0 = w 1074 0 0 := hK.1.1
  have hn := hK.2.1
  have hTJ := hK.2.2.2.2.2.1
  clear hT hL hF hR hO hG hW hB hS
  obtain ⟨m, e1, hm⟩ : ∃ m : Nat, c = nI (m + 1) ∧ m < (w 1074 0 0).toNatClampNeg := by
    have a1 := cl_toInt (c := c) (by grind)
    have a2 := le_toInt.mp hc.1
    have a3 := (cl_le (x := c) (y := w 1074 0 0) (by grind) (by grind)).mpr hc.2
    have k1 : (1 : Int32).toInt = 1 := rfl
    refine ⟨c.toNatClampNeg - 1, ?_, by omega⟩
    rw [show c.toNatClampNeg - 1 + 1 = c.toNatClampNeg by omega, nI_cl (by grind)]
  have hm16 : m < 16 := by
    have := (cl_le (x := w 1074 0 0) (y := 16) (by grind) (by decide)).mpr hn.2
    have k16 : (16 : Int32).toNatClampNeg = 16 := rfl
    omega
  have ec : c.toNatClampNeg = m + 1 := by rw [e1]; exact nI_clamp (by omega)
  obtain ⟨k0, k1, k2, k3, k4, k5, k6⟩ := hTJ m hm
  have ix : ∀ a : Nat, a < 7 → (32 * nI a + c - 1).toNatClampNeg = 32 * a + m := by
    intro a ha
    have e : 32 * nI a + c - 1 = nI (32 * a + m) := by
      have e32 : (32 : Int32) * nI a = nI (32 * a) := by
        have : ∀ a : Nat, a < 7 → (32 : Int32) * nI a = nI (32 * a) := by decide
        exact this a ha
      rw [e32, e1, nI_add, show (1 : Int32) = nI 1 from rfl, nI_subl (by omega)]
      rfl
    rw [e]; exact nI_clamp (by omega)
  have hw : wh = 0 ∨ wh = 1 ∨ wh = 2 ∨ wh = 3 ∨ wh = 4 ∨ wh = 5 ∨ wh = 6 := by clear hK hTJ ix k0 k1 k2 k3 k4 k5 k6; grind
  simp only [carV]
  rw [if_pos ⟨hc.1, by rw [ke]; exact hc.2⟩, ec]
  rcases hw with rfl | rfl | rfl | rfl | rfl | rfl | rfl
  · rw [if_pos rfl]; refine k0.trans ?_; rw [show (32 * 0 + c - 1 : Int32).toNatClampNeg = _ from ix 0 (by omega)]; congr 1; omega
  · rw [if_neg (by decide), if_pos rfl]; refine k1.trans ?_; rw [show (32 * 1 + c - 1 : Int32).toNatClampNeg = _ from ix 1 (by omega)]
  · rw [if_neg (by decide), if_neg (by decide), if_pos rfl]; refine k2.trans ?_; rw [show (32 * 2 + c - 1 : Int32).toNatClampNeg = _ from ix 2 (by omega)]
  · rw [if_neg (by decide), if_neg (by decide), if_neg (by decide), if_pos rfl]; refine k3.trans ?_; rw [show (32 * 3 + c - 1 : Int32).toNatClampNeg = _ from ix 3 (by omega)]
  · rw [if_neg (by decide), if_neg (by decide), if_neg (by decide), if_neg (by decide), if_pos rfl]; refine k4.trans ?_; rw [show (32 * 4 + c - 1 : Int32).toNatClampNeg = _ from ix 4 (by omega)]
  · rw [if_neg (by decide), if_neg (by decide), if_neg (by decide), if_neg (by decide), if_neg (by decide), if_pos rfl]; refine k5.trans ?_; rw [show (32 * 5 + c - 1 : Int32).toNatClampNeg = _ from ix 5 (by omega)]
  · rw [if_neg (by decide), if_neg (by decide), if_neg (by decide), if_neg (by decide), if_neg (by decide), if_neg (by decide), if_pos rfl]; refine k6.trans ?_; rw [show (32 * 6 + c - 1 : Int32).toNatClampNeg = _ from ix 6 (by omega)]
set_option maxHeartbeats 1000000 in
theorem updL_0 (f : Nat → Int64) (v : Int64) : vp_updL f 0 v 0 = v := if_pos rfl
set_option maxHeartbeats 1000000 in
/-- what the reference's car leaves -/
theorem car_x {w : Wi} {z : Wj} (E : En) (hM : q_okM E) {c wh : Int32} (h : J w z) : ∃ P2, CtI M_X12_car E [.ref (E.ad 12 0), .int c, .int wh] w z P2 ∧ ∀ r2 U Y, P2 r2 (U, Y) → J U Y ∧ U 1060 0 0 = (if ((1 ≤ c ∧ c ≤ w 1074 0 0) ∧ 0 ≤ wh ∧ wh ≤ 6) then 0 else 1) ∧ Y = z ∧ r2 = (if ((1 ≤ c ∧ c ≤ w 1074 0 0) ∧ 0 ≤ wh ∧ wh ≤ 6) then (L7 (w 42 0) (w 1080 0 0)) (32 * wh + c - 1).toNatClampNeg else 0) := by
  obtain ⟨hT, hK, hL, hF, hR, hO, hG, hW, hB, hS⟩ := h
  refine ⟨P_X12_car w z c wh, c_X12_car E hM w z c wh hK.2.1.1 hK.2.1.2 hK.2.2.2.2.1, fun r2 U Y hq => ?_⟩
  obtain ⟨hr2, hu2⟩ := hq
  cases hu2
  refine ⟨J_mk ?_ ?_ ?_ ?_ ?_ ?_ ?_ ?_ ?_ ?_, ?_, rfl, hr2⟩
  · (try simp (disch := decide) only [wS_s, wS_t, wB_o, RW, LW, MW]); exact hT
  · (try simp (disch := decide) only [wS_s, wS_t, wB_o, RW, LW, MW]); exact jk_lay hK
  · (try simp (disch := decide) only [wS_s, wS_t, wB_o, RW, LW, MW]); exact hL
  · (try simp (disch := decide) only [wS_s, wS_t, wB_o, RW, LW, MW]); exact hF
  · (try simp (disch := decide) only [wS_s, wS_t, wB_o, RW, LW, MW]); exact hR
  · (try simp (disch := decide) only [wS_s, wS_t, wB_o, RW, LW, MW]); exact hO
  · (try simp (disch := decide) only [wS_s, wS_t, wB_o, RW, LW, MW]); exact hG
  · (try simp (disch := decide) only [wS_s, wS_t, wB_o, RW, LW, MW]); exact hW
  · (try simp (disch := decide) only [wS_s, wS_t, wB_o, RW, LW, MW]); exact hB
  · (try simp (disch := decide) only [wS_s, wS_t, wB_o, RW, LW, MW]); exact hS
  · (try simp (disch := decide) only [wS_s, wS_t, wB_o, RW, LW, MW])
set_option maxHeartbeats 1000000 in
theorem s_car (E : En) (hM : q_okM E) (w : Wi) (z : Wj) (c wh : Int32) (h : J w z) : PrX (PL_car w z c wh) M_X12_car E [.int c, .int wh] := by
  intro r W Z hp
  have ke : w 500 0 0 = w 1074 0 0 := h.2.1.1.1
  rcases hp with ⟨ho, hr, hu⟩ | ⟨ho, hr, hu⟩
  · cases hu
    subst hr
    have hc : (1 ≤ c ∧ c ≤ w 1074 0 0) ∧ 0 ≤ wh ∧ wh ≤ 6 := by rw [← ke]; exact ho
    obtain ⟨P2, h1, h2⟩ := car_x E hM (c := c) (wh := wh) (J_z (f := vp_updL (z 72 0) 0 (carV w c wh).toInt64) h)
    refine ⟨Or.inl rfl, P2, h1, fun r2 U Y hq => ?_⟩
    obtain ⟨k1, k2, k3, k4⟩ := h2 r2 U Y hq
    rw [if_pos hc] at k2 k4
    refine ⟨k1, k2, fun _ => ?_⟩
    rw [k3, wS_s, updL_0, k4, car_e h hc.1 hc.2.1 hc.2.2]
  · cases hu
    subst hr
    have hc : ¬ ((1 ≤ c ∧ c ≤ w 1074 0 0) ∧ 0 ≤ wh ∧ wh ≤ 6) := by rw [← ke]; exact ho
    obtain ⟨P2, h1, h2⟩ := car_x E hM (c := c) (wh := wh) h
    refine ⟨Or.inr rfl, P2, h1, fun r2 U Y hq => ?_⟩
    obtain ⟨k1, k2, k3, k4⟩ := h2 r2 U Y hq
    rw [if_neg hc] at k2 k4
    exact ⟨k1, k2, fun z => absurd z (by decide)⟩
set_option maxHeartbeats 1000000 in
/-- what the reference's at leaves, over any scratch of the other side -/
theorem at_x {w : Wi} {z : Wj} (E : En) (hM : q_okM E) {ti ce wh : Int32} (h : J w z) (uh : Wi) (Z : Wj) (hZ : J w Z) : ∃ P2, CtI M_X12_at E [.ref (E.ad 12 0), .int ti, .int ce, .int wh] (wB w SCA uh) Z P2 ∧ ∀ r2 U Y, P2 r2 (U, Y) → J U Y ∧ U 1060 0 0 = (if ((0 ≤ ti ∧ ti ≤ 600) ∧ (0 ≤ wh ∧ wh ≤ 2) ∧ (if wh = 0 then 0 else 1) ≤ ce ∧ ce ≤ w 1074 0 0) then 0 else 1) ∧ Y = Z ∧ ((0 ≤ ti ∧ ti ≤ 600) ∧ (0 ≤ wh ∧ wh ≤ 2) ∧ (if wh = 0 then 0 else 1) ≤ ce ∧ ce ≤ w 1074 0 0 → r2 = atW w ti ce wh) := by
  obtain ⟨hT, hK, hL, hF, hR, hO, hG, hW, hB, hS⟩ := hZ
  obtain ⟨kR, kB, kS, kW, kw, ka, kn⟩ := jk_all hK
  obtain ⟨l1, l2, l3⟩ := lj_b hL
  refine ⟨P_X12_at (wB w SCA uh) Z ti ce wh, c_X12_at E hM (wB w SCA uh) Z ti ce wh (by (try simp (disch := decide) only [wS_s, wS_t, wB_o, RW, LW, MW]); exact hK.2.1.1) (by (try simp (disch := decide) only [wS_s, wS_t, wB_o, RW, LW, MW]); exact hK.2.1.2) (by (try simp (disch := decide) only [wS_s, wS_t, wB_o, RW, LW, MW]); exact hK.2.2.2.2.1) (by (try simp (disch := decide) only [wS_s, wS_t, wB_o, RW, LW, MW]); exact l2) (by (try simp (disch := decide) only [wS_s, wS_t, wB_o, RW, LW, MW]); exact l3) (by (try simp (disch := decide) only [wS_s, wS_t, wB_o, RW, LW, MW]); exact ka), fun r2 U Y hq => ?_⟩
  obtain ⟨uh2, hr2, hu2⟩ := hq
  cases hu2
  refine ⟨J_mk ?_ ?_ ?_ ?_ ?_ ?_ ?_ ?_ ?_ ?_, ?_, rfl, fun hc => ?_⟩
  · (try simp (disch := decide) only [wS_s, wS_t, wB_o, RW, LW, MW]); exact hT
  · (try simp (disch := decide) only [wS_s, wS_t, wB_o, RW, LW, MW]); exact jk_lay hK
  · (try simp (disch := decide) only [wS_s, wS_t, wB_o, RW, LW, MW]); exact hL
  · (try simp (disch := decide) only [wS_s, wS_t, wB_o, RW, LW, MW]); exact hF
  · (try simp (disch := decide) only [wS_s, wS_t, wB_o, RW, LW, MW]); exact hR
  · (try simp (disch := decide) only [wS_s, wS_t, wB_o, RW, LW, MW]); exact hO
  · (try simp (disch := decide) only [wS_s, wS_t, wB_o, RW, LW, MW]); exact hG
  · (try simp (disch := decide) only [wS_s, wS_t, wB_o, RW, LW, MW]); exact hW
  · (try simp (disch := decide) only [wS_s, wS_t, wB_o, RW, LW, MW]); exact hB
  · (try simp (disch := decide) only [wS_s, wS_t, wB_o, RW, LW, MW]); exact hS
  · (try simp (disch := decide) only [wS_s, wS_t, wB_o, RW, LW, MW])
  · rw [hr2]
    (try simp (disch := decide) only [wS_s, wS_t, wB_o, RW, LW, MW])
    rw [if_pos hc]
    have h3 : 0 ≤ ce := by
      have := hc.2.2.1
      clear hT hK hL hF hR hO hG hW hB hS kR kB kS kW kw ka kn h
      by_cases q : wh = 0
      · rw [if_pos q] at this; exact this
      · rw [if_neg q] at this; grind
    exact (kk_at hK hL _ _ _ _ _ _ _ _ _ hc.1.1 hc.1.2 h3 hc.2.2.2).symm
set_option maxHeartbeats 1000000 in
theorem okA_e {w : Wi} {ti ce wh : Int32} (ke : w 500 0 0 = w 1074 0 0) (kn : 1 ≤ w 1074 0 0) : okAw w ti ce wh ↔ ((0 ≤ ti ∧ ti ≤ 600) ∧ (0 ≤ wh ∧ wh ≤ 2) ∧ (if wh = 0 then 0 else 1) ≤ ce ∧ ce ≤ w 1074 0 0) := by
  simp only [okAw]
  rw [ke]
  by_cases q : wh = 0
  · rw [if_pos q]; grind
  · rw [if_neg q]; grind
set_option maxHeartbeats 1000000 in
theorem wB_w {α : Type} (w : Nat → Nat → Nat → α) (S : List (Nat × Nat)) : wB w S w = w := by
  funext t a
  by_cases h : (t, a) ∈ S
  · rw [wB_i _ _ h]
  · rw [wB_o _ _ h]
set_option maxHeartbeats 1000000 in
theorem s_at (E : En) (hM : q_okM E) (w : Wi) (z : Wj) (ti ce wh : Int32) (h : J w z) : PrX (PL_at w z ti ce wh) M_X12_at E [.int ti, .int ce, .int wh] := by
  intro r W Z hp
  have ke : w 500 0 0 = w 1074 0 0 := h.2.1.1.1
  have hq := okA_e (ti := ti) (ce := ce) (wh := wh) ke h.2.1.2.1.1
  rcases hp with ⟨ho, hr, uh, hu⟩ | ⟨ho, hr, hu⟩
  · cases hu
    subst hr
    obtain ⟨P2, h1, h2⟩ := at_x E hM (ti := ti) (ce := ce) (wh := wh) h uh _ (J_z (f := vp_updL (z 72 0) 0 (atW w ti ce wh).toInt64) h)
    refine ⟨Or.inl rfl, P2, h1, fun r2 U Y hq2 => ?_⟩
    obtain ⟨k1, k2, k3, k4⟩ := h2 r2 U Y hq2
    rw [if_pos (hq.mp ho)] at k2
    refine ⟨k1, k2, fun _ => ?_⟩
    rw [k3, wS_s, updL_0, k4 (hq.mp ho)]
  · cases hu
    subst hr
    obtain ⟨P2, h1, h2⟩ := at_x E hM (ti := ti) (ce := ce) (wh := wh) h w z h
    rw [wB_w] at h1
    refine ⟨Or.inr rfl, P2, h1, fun r2 U Y hq2 => ?_⟩
    obtain ⟨k1, k2, k3, k4⟩ := h2 r2 U Y hq2
    rw [if_neg (fun z => ho (hq.mpr z))] at k2
    exact ⟨k1, k2, fun z => absurd z (by decide)⟩

