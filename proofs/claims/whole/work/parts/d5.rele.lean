theorem in_cg {f g : Row} : ∀ c, (∀ k, 1 ≤ k → k < c → f k = g k) → inR f c = inR g c := by
  intro c
  induction c with
  | zero => intro _; rfl
  | succ c ih =>
    intro h
    by_cases h1 : 1 ≤ c
    · rw [inR_s f h1, inR_s g h1, ih (fun k a b => h k a (by omega)), h c h1 (by omega)]
    · have : c = 0 := by omega
      subst this; rfl
theorem fgC_re {G : GG} {R S : RK} (h : RE R S) (L : LV) (gt hot : Int32) : fgC G R L gt hot = fgC G S L gt hot := by
  simp only [fgC, fgE]
  rw [fgR_re h, c0_re h, h.1]
theorem pair_b {f : Row} (h : ∀ k, 0 ≤ f k ∧ f k ≤ 255) (p : Nat) : 0 ≤ pairF f p ∧ pairF f p ≤ 65535 := by
  have a := ti_in (h p)
  have b := ti_in (h (p + 1))
  have k0 : (0 : Int32).toInt = 0 := rfl
  have k1 : (255 : Int32).toInt = 255 := rfl
  have k2 : (256 : Int32).toInt = 256 := rfl
  have k3 : (65535 : Int32).toInt = 65535 := rfl
  rw [k0, k1] at a b
  have e1 : (f p * 256).toInt = (f p).toInt * 256 := by
    rw [ti_mul (by rw [k2]; omega) (by rw [k2]; omega), k2]
  have e2 : (f p * 256 + f (p + 1)).toInt = (f p).toInt * 256 + (f (p + 1)).toInt := by
    rw [ti_add (a := 0) (b := 65280) (c := 0) (d := 255) (by omega) (by omega) (by omega) (by omega) (by omega) (by omega), e1]
  simp only [pairF]
  rw [le_toInt, le_toInt, e2, k0, k3]
  omega
theorem ga_b {f : Row} (h : ∀ k, 0 ≤ f k ∧ f k ≤ 255) (c n : Nat) : gaB (gRw f c) n := fun k _ => pair_b h _
section KJ
variable {R : RK} {wt : Row} {n fu fe i : Int32} {q o : Row} {L M : LV}
theorem jk_o01 (hK : JK R wt n fu fe i q o) : o01 R.2.2.2.2.1 (R.1 + 1).toNatClampNeg := by
  obtain ⟨⟨h1, h1b, h1c⟩, h2, h3, h4, h5, h6, h7, h8⟩ := hK
  intro j j1 j2
  have hn : (R.1 + 1).toNatClampNeg = n.toNatClampNeg + 1 := by rw [h1]; exact (n1_b h2.1 h2.2).1
  rw [hn] at j2
  obtain ⟨m, rfl⟩ : ∃ m, j = m + 1 := ⟨j - 1, by omega⟩
  rw [(h6 m (by omega)).2.2.1]
  exact (h7 m (by omega)).2.2.1
theorem kk_cut (hK : JK R wt n fu fe i q o) (hL : LJ L M) (b0 f0 p : Row) {m g sp sn : Int32} (h10 : n ≤ 10) (hi : ¬ irF g sp sn = 0) : cutF m R wt L g sp sn (bkR R.2.2.2.2.1 b0 (R.1 + 1).toNatClampNeg) =
    hmR (ctG (fun s_ => spV (spC (ctK (rkT n fu fe (L7 q i) o) (inR (tkR p (L7 q i) 64 o n.toNatClampNeg) (n + 1).toNatClampNeg).1 s_) (wgR (L7 q i) o n.toNatClampNeg) M 601 0 601 g sp sn)) (fun s_ => cnR (inR (tkR p (L7 q i) 64 o n.toNatClampNeg) (n + 1).toNatClampNeg).1 s_ (n + 1).toNatClampNeg) (inR (tkR p (L7 q i) 64 o n.toNatClampNeg) (n + 1).toNatClampNeg).1 m (((inR (tkR p (L7 q i) 64 o n.toNatClampNeg) (n + 1).toNatClampNeg).1).toNatClampNeg + 1) (inR (tkR p (L7 q i) 64 o n.toNatClampNeg) (n + 1).toNatClampNeg).1 (fillR f0 0 11)) ((inR (tkR p (L7 q i) 64 o n.toNatClampNeg) (n + 1).toNatClampNeg).2 + 1).toNatClampNeg := by
  obtain ⟨kR, kB, kS, kW, kw, ka, kn⟩ := jk_all hK
  obtain ⟨i1, i2, i3⟩ := ir_g hi
  have hn := hK.2.1
  have ei : inR (tkR p (L7 q i) 64 o n.toNatClampNeg) (n + 1).toNatClampNeg = inR (tkR (fun _ => 0) (L7 q i) 64 o n.toNatClampNeg) (n + 1).toNatClampNeg := in_cg _ (fun k k1 k2 => tkR_re (by clear hL kR kB kS kW kw ka kn; grind) (by clear hL kR kB kS kW kw ka kn; grind) p (fun _ => 0) (L7 q i) o 64 k k1 k2)
  rw [ei]
  exact cut_eq kS hL kR (by rw [hK.1.1]; exact h10) (jk_o01 hK) kW ⟨kw, i1, i3⟩ i2 (fun k hk => if_pos hk)
theorem kk_vF (hK : JK R wt n fu fe i q o) (hL : LJ L M) {g sp sn : Int32} (hi : ¬ irF g sp sn = 0) : vF n.toNatClampNeg (fun o_ lim => runV lim (layK R o_) (layR (fun _ => 0) wt o_ R.1.toNatClampNeg) L g sp sn) (fun o_ => spV (spC (rkT n fu fe (L7 q i) o_) (wgR (L7 q i) o_ n.toNatClampNeg) M 601 0 601 g sp sn)) := by
  obtain ⟨⟨h1, h1b, h1c⟩, h2, h3, h4, h5, h6, h7, h8⟩ := hK
  obtain ⟨i1, i2, i3⟩ := ir_g hi
  intro a p hp hb
  have e : R = (n, fu, fe, R.2.2.2.1, R.2.2.2.2.1, R.2.2.2.2.2.1, R.2.2.2.2.2.2.1, R.2.2.2.2.2.2.2.1, R.2.2.2.2.2.2.2.2) := by rw [← h1, ← h1b, ← h1c]
  have hRE : RE (layK R a) (rkT n fu fe (L7 q i) p) := by rw [e]; exact lay_RE h2.1 h2.2 h6 hp hb
  have hS := rk_B h2.1 h2.2 h3 h4 h7 hb
  have hB := RB_re hRE hS
  have hw := wg_b h2.1 h2.2 h7 hb
  have hW : wsum (layR (fun _ => 0) wt a R.1.toNatClampNeg) ((layK R a).1 + 1).toNatClampNeg = wgR (L7 q i) p n.toNatClampNeg := by
    show wsum (layR (fun _ => 0) wt a R.1.toNatClampNeg) (R.1 + 1).toNatClampNeg = _
    rw [h1]; exact lay_W h2.1 h2.2 h6 hp hb
  have hg : gB (wgR (L7 q i) p n.toNatClampNeg) g sn := ⟨hw, i1, i3⟩
  refine ⟨fun lim => ?_, ?_⟩
  · show runV lim (layK R a) _ L g sp sn = capV lim (spV (spC (rkT n fu fe (L7 q i) p) _ M 601 0 601 g sp sn))
    rw [run_e hB hL hW hg i2, spC_re hRE]
  · have := spV_b hB hL hW hg bJ_no i2 (pa := 0) (pf := 601)
    rw [spC_re hRE] at this
    exact this
theorem kk_h3 (hK : JK R wt n fu fe i q o) (hL : LJ L M) {g sp sn : Int32} (hi : ¬ irF g sp sn = 0) : ∀ o_, pm n o_ → runV NOL (layK R o_) (layR (fun _ => 0) wt o_ R.1.toNatClampNeg) L g sp sn = (-1) ∨ 0 ≤ runV NOL (layK R o_) (layR (fun _ => 0) wt o_ R.1.toNatClampNeg) L g sp sn := by
  intro a ha
  have hn := hK.2.1
  have en : nI n.toNatClampNeg = n := nI_cl (by grind)
  have k := kk_vF hK hL hi a (fun k => a k - 1) (fun k hk => by show a k = a k - 1 + 1; grind) (fun k hk => by
    have := ha k hk
    show 0 ≤ a k - 1 ∧ a k - 1 < nI n.toNatClampNeg
    rw [en]
    exact ⟨by grind, by grind⟩)
  have k1 := k.1 NOL
  rw [cap_NOL] at k1
  have k2 := k.2
  show _ = (-1) ∨ 0 ≤ _
  simp only at k1
  rw [k1]
  exact k2.elim Or.inl (fun z => Or.inr z.1)
theorem pcs_b : ∀ n, n ≤ 6 → (pcs n).length ≤ 720 := by decide +kernel
theorem ord_0 {n : Nat} (hn : n ≤ 6) (f g : Row) : oR n (ordR f 6) (hoR g nI n) := by
  intro k hk
  simp only [ordR, hoR]
  rw [if_pos (by omega), if_pos hk]
  exact (nI_add k 1).symm
theorem ord_1 {n : Nat} (hn : n ≤ 6) (f : Row) : oR n (ordR f 6) nI := by
  intro k hk
  simp only [ordR]
  rw [if_pos (by omega)]
  exact (nI_add k 1).symm
theorem fo_x {l : Int32} (h : l = (-1) ∨ (0 ≤ l ∧ l ≤ 16200000)) : l = if fO l = FARC then (-1) else fO l := by
  rcases h with rfl | h
  · decide
  · have e : fO l = l := if_neg (by grind)
    rw [e, if_neg (by grind)]
theorem kk_lst {n n2 : Nat} {F : Row → Int32 → Int32} {V : Row → Int32} (en : n2 = n) (h1 : 1 ≤ n) (h6 : n ≤ 6) (hF : vF n F V) (f b p c : Row) : (if (ordG V n 0 (pcs n).length (hoR p nI n) FARC (hoR c nI n)).1 = FARC then (-1) else (ordG V n 0 (pcs n).length (hoR p nI n) FARC (hoR c nI n)).1) = (lstR F n2 720 (ordR f 6) (-1) (va_cpy (ordR f 6) b 0 0 6)).1 ∧ oR n (lstR F n2 720 (ordR f 6) (-1) (va_cpy (ordR f 6) b 0 0 6)).2 (ordG V n 0 (pcs n).length (hoR p nI n) FARC (hoR c nI n)).2.1 := by
  subst en
  obtain ⟨e1, e2, e3⟩ := lst_e h1 h6 hF (pcs n2).length 720 (pcs_b n2 h6) (stO_0 h1 h6 p) (ord_0 h6 f p) (Or.inl rfl) (cp_o (b := b) (c := c) h6 (ord_1 h6 f)) (l := (-1))
  rw [show fO (-1) = FARC from rfl] at e1 e3
  refine ⟨?_, e3⟩
  rw [← e1]
  exact (fo_x e2).symm
theorem kk_grt {n n2 : Nat} {F : Row → Int32 → Int32} {V : Row → Int32} (en : n2 = n) (h1 : 1 ≤ n) (h6 : n ≤ 6) (hF : vF n F V) (f b p c : Row) : (if (ordG V n 1 (pcs n).length (hoR p nI n) (-1) (hoR c nI n)).1 = FARC then (-1) else (ordG V n 1 (pcs n).length (hoR p nI n) (-1) (hoR c nI n)).1) = (grtR F n2 720 (ordR f 6) (-1) b).1 ∧ oR n (grtR F n2 720 (ordR f 6) (-1) b).2 (ordG V n 1 (pcs n).length (hoR p nI n) (-1) (hoR c nI n)).2.1 := by
  subst en
  have k := grt_e (b := b) (c := hoR c nI n2) h1 h6 hF (pcs n2).length 720 (pcs_b n2 h6) (stO_0 h1 h6 p) (ord_0 h6 f p) (Or.inl rfl) (l := (-1))
  exact ⟨k.1.symm, k.2⟩
theorem kk_or {n n2 : Nat} {F : Row → Int32 → Int32} {V : Row → Int32} {wh : Int32} (en : n2 = n) (h1 : 1 ≤ n) (h6 : n ≤ 6) (hF : vF n F V) (hw : wh = 0 ∨ wh = 1) (f b p c : Row) : (if (ordG V n wh (pcs n).length (hoR p nI n) (if wh = 0 then FARC else (-1)) (hoR c nI n)).1 = 1000000000 then (-1) else (ordG V n wh (pcs n).length (hoR p nI n) (if wh = 0 then FARC else (-1)) (hoR c nI n)).1) = (if wh = 0 then (lstR F n2 720 (ordR f 6) (-1) (va_cpy (ordR f 6) b 0 0 6)).1 else (grtR F n2 720 (ordR f 6) (-1) b).1) ∧ oR n (if wh = 0 then (lstR F n2 720 (ordR f 6) (-1) (va_cpy (ordR f 6) b 0 0 6)).2 else (grtR F n2 720 (ordR f 6) (-1) b).2) (ordG V n wh (pcs n).length (hoR p nI n) (if wh = 0 then FARC else (-1)) (hoR c nI n)).2.1 := by
  rcases hw with rfl | rfl
  · simp only [if_pos (show (0 : Int32) = 0 from rfl)]
    exact kk_lst en h1 h6 hF f b p c
  · simp only [if_neg (show ¬ (1 : Int32) = 0 by decide)]
    exact kk_grt en h1 h6 hF f b p c
theorem kk_fit (hK : JK R wt n fu fe i q o) (hL : LJ L M) {f : Row} (hf : ∀ k, 0 ≤ f k ∧ f k ≤ 255) {gt : Nat} {off hot : Int32} (hg : gOk f gt 0 ≠ 0) (f1 f2 : Row) : fJ (ffO (fun g_ => fitV (gRw f 0, gRw f 2, gRw f 4, gt, off) (bndK R g_) L (gMx f gt) hot) f1 R.1.toNatClampNeg) (frR (fun g_ => fgC (gRw f 0, gRw f 2, gRw f 4, gt, off) (bndK (rkT n fu fe (L7 q i) o) g_) M (gMx f gt) hot) f2 (10 * n + 7).toNatClampNeg) := by
  obtain ⟨kR, kB, kS, kW, kw, ka, kn⟩ := jk_all hK
  have hn := hK.2.1
  have e10 : (10 * n + 7).toNatClampNeg = 10 * n.toNatClampNeg + 7 := cl_ten (by grind) (by grind) (by decide) (by decide)
  have eF : ∀ g_, fitV (gRw f 0, gRw f 2, gRw f 4, gt, off) (bndK R g_) L (gMx f gt) hot = fgC (gRw f 0, gRw f 2, gRw f 4, gt, off) (bndK (rkT n fu fe (L7 q i) o) g_) M (gMx f gt) hot := by
    intro g_
    rw [fitV_e (RB_bnd kB g_) hL (ga_b hf 2 gt) (ga_b hf 4 gt) (gMx_b gt hg)]
    exact fgC_re (bndK_re kR g_) M (gMx f gt) hot
  rw [e10, hK.1.1]
  exact ffO_e (P := fun g_ => fitV (gRw f 0, gRw f 2, gRw f 4, gt, off) (bndK R g_) L (gMx f gt) hot) (Q := fun g_ => fgC (gRw f 0, gRw f 2, gRw f 4, gt, off) (bndK (rkT n fu fe (L7 q i) o) g_) M (gMx f gt) hot) hn.1 hn.2 (eF 0) (fun c _ _ k _ => eF _) n.toNatClampNeg (Nat.le_refl _)
theorem kk_fits (hK : JK R wt n fu fe i q o) (hL : LJ L M) {f : Row} (hf : ∀ k, 0 ≤ f k ∧ f k ≤ 255) {gt : Nat} {off hot : Int32} (hg : gOk f gt 0 ≠ 0) (f1 f2 : Row) (ii : Int32) (hii : ¬ ii = 0) : JG (ffO (fun g_ => fitV (gRw f 0, gRw f 2, gRw f 4, gt, off) (bndK R g_) L (gMx f gt) hot) f1 R.1.toNatClampNeg).2 (frR (fun g_ => fgC (gRw f 0, gRw f 2, gRw f 4, gt, off) (bndK (rkT n fu fe (L7 q i) o) g_) M (gMx f gt) hot) f2 (10 * n + 7).toNatClampNeg).2 R.1 ii n (ffO (fun g_ => fitV (gRw f 0, gRw f 2, gRw f 4, gt, off) (bndK R g_) L (gMx f gt) hot) f1 R.1.toNatClampNeg).1 (frR (fun g_ => fgC (gRw f 0, gRw f 2, gRw f 4, gt, off) (bndK (rkT n fu fe (L7 q i) o) g_) M (gMx f gt) hot) f2 (10 * n + 7).toNatClampNeg).1 := by
  have k := kk_fit hK hL hf (off := off) (hot := hot) hg f1 f2
  have hn := hK.2.1
  have b := fr_ok (Q := fun g_ => fgC (gRw f 0, gRw f 2, gRw f 4, gt, off) (bndK (rkT n fu fe (L7 q i) o) g_) M (gMx f gt) hot) (f := f2) hn.1 hn.2
  exact ⟨k.1, b.1, k.2, Or.inr ⟨hii, hK.1.1, hn.1, b.2⟩⟩
/-- walks, both sides: the set, its size, the pairs -/
theorem kk_wk (hK : JK R wt n fu fe i q o) (hL : LJ L M) {ti N1 N2 : Int32} (ht : 1 ≤ ti ∧ ti ≤ 400) {f1 f2 : Row} (eN : N1 = N2) (hN : 0 ≤ N2 ∧ N2 ≤ 113) (ef : ∀ k, k < N2.toNatClampNeg → f1 k = f2 k) (a b d : Row) :
    let s := wkR (htG R L ti) f1 (a, b, 0, 0) N1.toNatClampNeg
    let h := hoR d (fun k => hoG (rkT n fu fe (L7 q i) o) M ti (f2 k)) N2.toNatClampNeg
    lwR (paF s.1 s.2.2.1.toNatClampNeg) (usR s.1 s.2.2.1.toNatClampNeg) (usR s.1 s.2.2.1.toNatClampNeg).toNatClampNeg 0 (usR s.1 s.2.2.1.toNatClampNeg) = fnR (ptF h N2.toNatClampNeg) (usR h N2.toNatClampNeg) (usR h N2.toNatClampNeg + 1).toNatClampNeg 0 (usR h N2.toNatClampNeg) ∧
    bcF (lwR (paF s.1 s.2.2.1.toNatClampNeg) (usR s.1 s.2.2.1.toNatClampNeg) (usR s.1 s.2.2.1.toNatClampNeg).toNatClampNeg 0 (usR s.1 s.2.2.1.toNatClampNeg)) = bits (fnR (ptF h N2.toNatClampNeg) (usR h N2.toNatClampNeg) (usR h N2.toNatClampNeg + 1).toNatClampNeg 0 (usR h N2.toNatClampNeg)) ∧ s.2.2.2 = prO h N2.toNatClampNeg := by
  intro s h
  obtain ⟨kR, kB, kS, kW, kw, ka, kn⟩ := jk_all hK
  have hN2 : N2.toNatClampNeg ≤ 113 := (cl_le hN.1 (show (0 : Int32) ≤ 113 by decide)).mpr hN.2
  have he : ∀ k, k < N2.toNatClampNeg → htG R L ti (f1 k) = h k := by
    intro k hk
    show _ = hoR d _ _ k
    simp only [hoR]
    rw [if_pos hk, ef k hk, ht_e kS hL kR ⟨by grind, ht.2⟩]
  have w : wJ h N2.toNatClampNeg s := by
    show wJ h N2.toNatClampNeg (wkR (htG R L ti) f1 (a, b, 0, 0) N1.toNatClampNeg)
    rw [eN]
    exact wk_J (by omega) he _ (Nat.le_refl _)
  have hpa : ∀ x, paF s.1 s.2.2.1.toNatClampNeg x = ptF h N2.toNatClampNeg x := fun x => pa_pt w x (by omega)
  obtain ⟨m, m1, m2, -, -, -, -, -, m8, m9⟩ := w
  have em : s.2.2.1.toNatClampNeg = m := by rw [m1]; exact nI_clamp (by omega)
  rw [← em] at m9
  rw [m9]
  have h16 : B16 (usR h N2.toNatClampNeg) := by
    refine usR_B16 h _ (fun k hk => ?_)
    show B16 (hoR d _ _ k)
    simp only [hoR]
    rw [if_pos hk]
    exact hotR_B16 _ _ (sz_b (by have := kS.1.1; grind) kS.1.2)
  have r := walk_e hpa h16
  exact ⟨r.1, r.2, m8⟩
end KJ

set_option maxHeartbeats 2000000 in
theorem s_cut (E : En) (hM : q_okM E) (w : Wi) (z : Wj) (g : Int32) (sp : Int32) (sn : Int32) (m : Int32) (h : J w z) : Pr M_X11_cut M_X12_cut E [.int g, .int sp, .int sn, .int m] w z := by
  obtain ⟨hT, hK, hL, hF, hR, hO, hG, hW, hB, hS⟩ := h
  obtain ⟨l1, l2, l3⟩ := lj_b hL
  obtain ⟨t1, t2, t3, t4⟩ := hT
  obtain ⟨kR, kB, kS, kW, kw, ka, kn⟩ := jk_all hK
  have kn1 : 1 ≤ w 1074 0 0 ∧ w 1074 0 0 ≤ 16 := hK.2.1
  have ki := hK.2.2.2.2.1
  have ke : w 500 0 0 = w 1074 0 0 := hK.1.1
  refine ⟨P_X11_cut w z g sp sn m, c_X11_cut E hM.1 w z g sp sn m (by rw [ke]; grind), fun r W Z hp => ?_⟩
  obtain ⟨uh, hr, hu⟩ := hp
  cases hu
  refine ⟨P_X12_cut _ _ g sp sn m, c_X12_cut E hM _ _ g sp sn m (by (try simp (disch := decide) only [wS_s, wS_t, wB_o, RW, LW, MW]); exact kn1.1) (by (try simp (disch := decide) only [wS_s, wS_t, wB_o, RW, LW, MW]); exact kn1.2) (by (try simp (disch := decide) only [wS_s, wS_t, wB_o, RW, LW, MW]); exact ki) (by (try simp (disch := decide) only [wS_s, wS_t, wB_o, RW, LW, MW]); exact l2) (by (try simp (disch := decide) only [wS_s, wS_t, wB_o, RW, LW, MW]); exact l3) (by (try simp (disch := decide) only [wS_s, wS_t, wB_o, RW, LW, MW]); exact ka) (by (try simp (disch := decide) only [wS_s, wS_t, wB_o, RW, LW, MW]); exact kn), fun r2 U Y hq => ?_⟩
  obtain ⟨uh2, hr2, hu2⟩ := hq
  cases hu2
  refine ⟨?_, J_mk ?_ ?_ ?_ ?_ ?_ ?_ ?_ ?_ ?_ ?_⟩
  · rw [hr, hr2]
    try simp (disch := decide) only [wS_s, wS_t, wB_o, RW, LW, MW]
    by_cases q : irF g sp sn = 0 ∨ m < 0 ∨ 10 < w 1074 0 0
    · have q2 : ¬ (0 ≤ m ∧ w 500 0 0 ≤ 10) ∨ irF g sp sn = 0 := by rw [ke]; clear hK hL hR kR kB kS kW kw ka kn hr hr2; grind
      rw [if_pos q, if_pos q2]
    · have q2 : ¬ (¬ (0 ≤ m ∧ w 500 0 0 ≤ 10) ∨ irF g sp sn = 0) := by rw [ke]; clear hK hL hR kR kB kS kW kw ka kn hr hr2; grind
      rw [if_neg q, if_neg q2]; exact (kk_cut hK hL _ _ _ (by clear hK hL hR kR kB kS kW kw ka kn hr hr2; grind) (fun z => q (Or.inl z))).symm
  · (try simp (disch := decide) only [wS_s, wS_t, wB_o, RW, LW, MW]); exact ⟨t1, t2, t3, t4⟩
  · (try simp (disch := decide) only [wS_s, wS_t, wB_o, RW, LW, MW]); exact jk_lay hK
  · (try simp (disch := decide) only [wS_s, wS_t, wB_o, RW, LW, MW]); exact hL
  · (try simp (disch := decide) only [wS_s, wS_t, wB_o, RW, LW, MW]); exact hF
  · (try simp (disch := decide) only [wS_s, wS_t, wB_o, RW, LW, MW]); exact hR
  · (try simp (disch := decide) only [wS_s, wS_t, wB_o, RW, LW, MW]); exact hO
  · (try simp (disch := decide) only [wS_s, wS_t, wB_o, RW, LW, MW]); exact hG
  · (try simp (disch := decide) only [wS_s, wS_t, wB_o, RW, LW, MW]); exact hW
  · (try simp (disch := decide) only [wS_s, wS_t, wB_o, RW, LW, MW]); exact hB
  · (try simp (disch := decide) only [wS_s, wS_t, wB_o, RW, LW, MW]); exact hS
