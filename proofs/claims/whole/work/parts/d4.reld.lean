set_option maxHeartbeats 2000000 in
theorem s_handle (E : En) (hM : q_okM E) (w : Wi) (z : Wj) (h : J w z) : PrS M_X11_handle M_X12_handle E [] w z := by
  obtain ⟨hT, hK, hL, hF, hR, hO, hG, hW, hB, hS⟩ := h
  obtain ⟨l1, l2, l3⟩ := lj_b hL
  obtain ⟨t1, t2, t3, t4⟩ := hT
  obtain ⟨kR, kB, kS, kW, kw, ka, kn⟩ := jk_all hK
  have kn1 : 1 ≤ w 1074 0 0 ∧ w 1074 0 0 ≤ 16 := hK.2.1
  have ki := hK.2.2.2.2.1
  have ke : w 500 0 0 = w 1074 0 0 := hK.1.1
  have hJ := handle_e (f := w 41 0) (n := w 1062 0 0) (a := w 743 0 0) (b := w 742 0 0) (v := w 745 0 0) (fr := w 1066 0 0) (kd := w 1067 0 0) (nu := w 1068 0 0) (pl := w 1070 0 0) (to := w 1072 0 0) (wo := z 1071 0 0) (A := w 27 1) (B := w 28 1) (C := w 29 1) (W := w 43 0) (D := w 44 0) (G := w 45 0) t3
  simp only [mnL] at hJ
  have hk : kH (w 43 0) (hdG ((w 41 0), (w 1062 0 0), 300) ((0, (w 1066 0 0), (w 1067 0 0), (w 1068 0 0), (z 1071 0 0)), 0, (w 1070 0 0), (w 1072 0 0)) (w 43 0) (w 44 0) (w 45 0)).2.2.1 ∧ kH (w 44 0) (hdG ((w 41 0), (w 1062 0 0), 300) ((0, (w 1066 0 0), (w 1067 0 0), (w 1068 0 0), (z 1071 0 0)), 0, (w 1070 0 0), (w 1072 0 0)) (w 43 0) (w 44 0) (w 45 0)).2.2.2.1 ∧ kH (w 45 0) (hdG ((w 41 0), (w 1062 0 0), 300) ((0, (w 1066 0 0), (w 1067 0 0), (w 1068 0 0), (z 1071 0 0)), 0, (w 1070 0 0), (w 1072 0 0)) (w 43 0) (w 44 0) (w 45 0)).2.2.2.2.1 := hd_k (P := ((w 41 0), (w 1062 0 0), 300)) (x := ((0, (w 1066 0 0), (w 1067 0 0), (w 1068 0 0), (z 1071 0 0)), 0, (w 1070 0 0), (w 1072 0 0))) (W := w 43 0) (D := w 44 0) (G := w 45 0)
  obtain ⟨hJ, hb⟩ := hJ
  refine ⟨P_X11_handle w z, c_X11_handle E hM.1 w z (by rw [t1]; exact t3.1) (by rw [t1]; exact t3.2), fun r W Z hp => ?_⟩
  obtain ⟨uh, hr, hu⟩ := hp
  cases hu
  refine ⟨P_X12_handle _ _, c_X12_handle E hM _ _ (by (try simp (disch := decide) only [wS_s, wS_t, wB_o, RW, LW, MW]); exact t3.1) (by (try simp (disch := decide) only [wS_s, wS_t, wB_o, RW, LW, MW]); exact t3.2), fun r2 U Y hq => ?_⟩
  obtain ⟨hr2, hu2⟩ := hq
  cases hu2
  refine ⟨?_, J_mk ?_ ?_ ?_ ?_ ?_ ?_ ?_ ?_ ?_ ?_⟩
  · rw [hr, hr2]
    try simp (disch := decide) only [wS_s, wS_t, wB_o, RW, LW, MW]
    rw [t1, t2]
    exact hd_an hJ
  · (try simp (disch := decide) only [wS_s, wS_t, wB_o, RW, LW, MW]); exact ⟨rfl, t2, ⟨by decide, by decide⟩, t4⟩
  · (try simp (disch := decide) only [wS_s, wS_t, wB_o, RW, LW, MW]); exact hK
  · try simp (disch := decide) only [wS_s, wS_t, wB_o, RW, LW, MW]
    rw [t1, t2]
    exact hd_lj (L := LW w) (M := MW w) hL hJ hb hk
  · try simp (disch := decide) only [wS_s, wS_t, wB_o, RW, LW, MW]
    rw [t1, t2]
    exact hd_f hJ
  · (try simp (disch := decide) only [wS_s, wS_t, wB_o, RW, LW, MW]); exact hR
  · (try simp (disch := decide) only [wS_s, wS_t, wB_o, RW, LW, MW]); exact hO
  · (try simp (disch := decide) only [wS_s, wS_t, wB_o, RW, LW, MW]); exact hG
  · (try simp (disch := decide) only [wS_s, wS_t, wB_o, RW, LW, MW]); exact hW
  · (try simp (disch := decide) only [wS_s, wS_t, wB_o, RW, LW, MW]); exact hB
  · (try simp (disch := decide) only [wS_s, wS_t, wB_o, RW, LW, MW]); exact hS
