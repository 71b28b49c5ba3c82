/-! a text that is being read writes only drafts -/
def kT (T T2 : Row) : Prop := ∀ k, k % 32 < 16 → T2 k = T k
theorem kT_r (T : Row) : kT T T := fun _ _ => rfl
theorem kT_t {T T2 T3 : Row} (h : kT T T2) (g : kT T2 T3) : kT T T3 := fun k hk => (g k hk).trans (h k hk)
theorem kT_u {T T2 : Row} (h : kT T T2) {i : Nat} {x : Int32} (hi : 16 ≤ i % 32) : kT T (upd T2 i x) := fun k hk => by
  rw [upd_n _ _ (fun e => by rw [e] at hk; omega)]; exact h k hk
theorem ixT {rc row : Int32} (h0 : 0 ≤ rc) (h1 : rc < 16) (hr : row ∈ ([0, 32, 64, 96, 128, 160, 192] : List Int32)) : 16 ≤ (row + (16 + rc)).toNatClampNeg % 32 := by
  obtain ⟨m, rfl, hm⟩ : ∃ m : Nat, rc = nI m ∧ m < 16 := ⟨rc.toNatClampNeg, (nI_cl h0).symm, (cl_lt h0 (show (0 : Int32) ≤ 16 by decide)).mpr h1⟩
  simp only [List.mem_cons, List.not_mem_nil, or_false] at hr
  rcases hr with rfl | rfl | rfl | rfl | rfl | rfl | rfl
  · have := ix_e (m := m) (by omega) 0 (by omega); rw [show (0 : Int32) = nI 0 from rfl, this]; omega
  · have := ix_e (m := m) (by omega) 32 (by omega); rw [show (32 : Int32) = nI 32 from rfl, this]; omega
  · have := ix_e (m := m) (by omega) 64 (by omega); rw [show (64 : Int32) = nI 64 from rfl, this]; omega
  · have := ix_e (m := m) (by omega) 96 (by omega); rw [show (96 : Int32) = nI 96 from rfl, this]; omega
  · have := ix_e (m := m) (by omega) 128 (by omega); rw [show (128 : Int32) = nI 128 from rfl, this]; omega
  · have := ix_e (m := m) (by omega) 160 (by omega); rw [show (160 : Int32) = nI 160 from rfl, this]; omega
  · have := ix_e (m := m) (by omega) 192 (by omega); rw [show (192 : Int32) = nI 192 from rfl, this]; omega
theorem ro_k {P : TP} {row rc : Int32} {x : GX} {T : Row} (h0 : 0 ≤ rc) (h1 : rc < 16) (hr : row ∈ ([64, 96, 128, 160, 192] : List Int32)) : kT T (roG P row (16 + rc) x T).2.2 := by
  have hr2 : row ∈ ([0, 32, 64, 96, 128, 160, 192] : List Int32) := List.mem_cons_of_mem _ (List.mem_cons_of_mem _ hr)
  simp only [roG]
  split
  · exact kT_u (kT_r T) (ixT h0 h1 (by decide))
  split
  · split
    · exact kT_r T
    · exact kT_u (kT_r T) (ixT h0 h1 (by decide))
  split
  · exact kT_r T
  · exact kT_u (kT_r T) (ixT h0 h1 hr2)
theorem oc_k {P : TP} {rc : Int32} (h0 : 0 ≤ rc) (h1 : rc < 16) : ∀ (n : Nat) (had : Int32) (x : GX) (T : Row), kT T (ocG P (16 + rc) n had x T).2.2 := by
  intro n
  induction n with
  | zero => intro had x T; exact kT_r T
  | succ n ih =>
    intro had x T
    simp only [ocG]
    split
    · exact kT_r T
    split
    · exact kT_r T
    rename_i hop
    have hin : opG x.1 ∈ ([64, 96, 128, 160, 192] : List Int32) := (opG_in x.1).resolve_left hop
    split
    · exact kT_r T
    split
    · exact ro_k h0 h1 hin
    · exact kT_t (ro_k h0 h1 hin) (ih _ _ _)
theorem nw_k {T T2 : Row} {rc v : Int32} (h0 : 0 ≤ rc) (h1 : rc < 16) (h : kT T T2) : kT T (nwT T2 (16 + rc) v) :=
  kT_u (kT_u (kT_u (kT_u (kT_u (kT_u h (ixT h0 h1 (by decide))) (ixT h0 h1 (by decide))) (ixT h0 h1 (by decide))) (ixT h0 h1 (by decide))) (ixT h0 h1 (by decide))) (ixT h0 h1 (by decide))
theorem rc_k {P : TP} {x : GX} {T : Row} {rc : Int32} (h0 : 0 ≤ rc) (h1 : rc ≤ 16) : kT T (rcG P x T rc).2.2.1 := by
  simp only [rcG]
  split
  · exact kT_r T
  rename_i hne
  have h2 : rc < 16 := by grind
  have hu : ∀ v, kT T (upd T (0 + (16 + rc)).toNatClampNeg v) := fun v => kT_u (kT_r T) (ixT h0 h2 (by decide))
  split
  · exact kT_r T
  split
  · exact hu _
  split
  · exact kT_t (nw_k h0 h2 (hu _)) (oc_k h0 h2 _ _ _ _)
  · exact kT_t (nw_k h0 h2 (hu _)) (oc_k h0 h2 _ _ _ _)
theorem rl_k {P : TP} {x : GX} {T : Row} {rc rf rd : Int32} (h0 : 0 ≤ rc) (h1 : rc ≤ 16) : kT T (rlG P x T rc rf rd).2.2.1 := by
  have k := rc_k (P := P) (x := x) (T := T) h0 h1
  simp only [rlG]
  by_cases c1 : caG x.1 ≠ 0
  · rw [if_pos c1]
    by_cases c2 : (rcG P x T rc).1 = 0
    · rw [if_pos c2]; exact k
    · rw [if_neg c2]; exact k
  rw [if_neg c1]
  by_cases c2 : fuG x.1 = 0 ∧ feG x.1 = 0
  · rw [if_pos c2]; exact kT_r T
  rw [if_neg c2]
  by_cases c3 : ¬ (if fuG x.1 ≠ 0 then rf else rd) = (-1)
  · rw [if_pos c3]; exact kT_r T
  rw [if_neg c3]
  by_cases c4 : (nnG P (fuG x.1) (gtG P x)).1 = 0
  · rw [if_pos c4]; exact kT_r T
  · rw [if_neg c4]; exact kT_r T
theorem tl_k {P : TP} : ∀ (m : Nat) (n : Int32) (y : LSt), 0 ≤ y.2.2.1 → y.2.2.1 ≤ 16 → kT y.2.1 (tlG P m n y).2.2.2.1 := by
  intro m
  induction m with
  | zero => intro n y _ _; exact kT_r _
  | succ m ih =>
    intro n y h0 h1
    simp only [tlG]
    split
    · exact kT_r _
    split
    · exact rl_k h0 h1
    · have b := rl_rc (P := P) (x := y.1) (T := y.2.1) (rf := y.2.2.2.1) (rd := y.2.2.2.2) h0 h1
      exact kT_t (rl_k h0 h1) (ih _ _ b.1 b.2)
theorem td_k {P : TP} {x : GX} {T : Row} : kT T (tdG P x T).2.2.2.1 := by
  have h := tl_k (P := P) 741 0 (gtG P x, T, 0, (-1), (-1)) (Int32.le_refl _) (show (0 : Int32) ≤ 16 by decide)
  simp only [tdG, teG]
  split
  · exact h
  split
  · exact h
  · exact h
def kH (W W2 : Row) : Prop := ∀ k, k < 20 → W2 k = W k
theorem kH_r (T : Row) : kH T T := fun _ _ => rfl
theorem kH_t {T T2 T3 : Row} (h : kH T T2) (g : kH T2 T3) : kH T T3 := fun k hk => (g k hk).trans (h k hk)
theorem kH_u {T : Row} {i : Int32} {x : Int32} (h0 : 0 ≤ i) (h1 : i ≤ 20) : kH T (upd T (20 + i).toNatClampNeg x) := fun k hk => by
  have : (20 + i).toNatClampNeg = 20 + i.toNatClampNeg := by rw [cl_add (by decide) h0 (by decide) (by grind)]; rfl
  rw [upd_n _ _ (by omega)]
theorem da_k {P : TP} {dr rs : Int32} {x : GX} {D : Row} (h0 : 0 ≤ rs) (h1 : rs ≤ 20) : kH D (daG P dr x D (20 + rs)).2.2 := by
  simp only [daG]
  split
  · exact kH_r D
  split
  · exact kH_r D
  · exact kH_u h0 h1
theorem ts_k {P : TP} {x : GX} {W D G : Row} {rs : Int32} (h0 : 0 ≤ rs) (h1 : rs ≤ 20) : kH W (tsG P x W D G rs).2.2.1 ∧ kH D (tsG P x W D G rs).2.2.2.1 ∧ kH G (tsG P x W D G rs).2.2.2.2.1 := by
  simp only [tsG]
  split
  · exact ⟨kH_r _, kH_r _, kH_r _⟩
  split
  · exact ⟨kH_r _, kH_r _, kH_r _⟩
  split
  · exact ⟨kH_r _, da_k h0 h1, kH_r _⟩
  split
  · exact ⟨kH_r _, da_k h0 h1, kH_r _⟩
  · exact ⟨kH_u h0 h1, da_k h0 h1, kH_u h0 h1⟩
theorem hl_k {P : TP} : ∀ (m : Nat) (y : HSt), 0 ≤ y.2.2.2.2 → y.2.2.2.2 ≤ 20 → kH y.2.1 (hlG P m y).2.2.1 ∧ kH y.2.2.1 (hlG P m y).2.2.2.1 ∧ kH y.2.2.2.1 (hlG P m y).2.2.2.2.1 := by
  intro m
  induction m with
  | zero => intro y _ _; exact ⟨kH_r _, kH_r _, kH_r _⟩
  | succ m ih =>
    intro y h0 h1
    simp only [hlG]
    split
    · exact ⟨kH_r _, kH_r _, kH_r _⟩
    split
    · exact ts_k h0 h1
    · have b := ts_rs (P := P) (x := y.1) (W := y.2.1) (D := y.2.2.1) (G := y.2.2.2.1) h0 h1
      have k1 := ts_k (P := P) (x := y.1) (W := y.2.1) (D := y.2.2.1) (G := y.2.2.2.1) h0 h1
      have k2 := ih _ b.1 b.2
      exact ⟨kH_t k1.1 k2.1, kH_t k1.2.1 k2.2.1, kH_t k1.2.2 k2.2.2⟩
theorem hd_k {P : TP} {x : GX} {W D G : Row} : kH W (hdG P x W D G).2.2.1 ∧ kH D (hdG P x W D G).2.2.2.1 ∧ kH G (hdG P x W D G).2.2.2.2.1 := by
  simp only [hdG]
  split
  · exact ⟨kH_r _, kH_r _, kH_r _⟩
  · exact hl_k _ _ (Int32.le_refl _) (show (0 : Int32) ≤ 20 by decide)
theorem jk_kT {R : RK} {wt : Row} {n fu fe i : Int32} {q a T : Row} (h : JK R wt n fu fe i q a) (k : kT (L7 q i) T) : JK R wt n fu fe 1 T a := by
  obtain ⟨h1, h2, h3, h4, h5, h6, h7, h8⟩ := h
  have hn : n.toNatClampNeg ≤ 16 := (cl_le (by grind) (show (0 : Int32) ≤ 16 by decide)).mpr h2.2
  refine ⟨h1, h2, h3, h4, Or.inr rfl, ?_, ?_, h8⟩
  · rw [L7_1]
    intro j hj
    have := h6 j hj
    rw [k j (by omega), k (32 + j) (by omega), k (64 + j) (by omega), k (96 + j) (by omega), k (128 + j) (by omega), k (160 + j) (by omega), k (192 + j) (by omega)]
    exact this
  · rw [L7_1]
    intro j hj
    have := h7 j hj
    rw [k j (by omega), k (32 + j) (by omega), k (64 + j) (by omega), k (96 + j) (by omega), k (128 + j) (by omega), k (160 + j) (by omega)]
    exact this
theorem lj_kH {L M : LV} {W D G : Row} (h : LJ L M) (k1 : kH M.2.2.1 W) (k2 : kH M.2.2.2.1 D) (k3 : kH M.2.2.2.2 G) : LJ L (M.1, M.2.1, W, D, G) := by
  obtain ⟨h1, h2, h3, h4, h5⟩ := h
  have hn : M.1.toNatClampNeg ≤ 20 := (cl_le h2.1 (show (0 : Int32) ≤ 20 by decide)).mpr h2.2
  refine ⟨h1, h2, h3, ⟨h4.1, fun k hk => ?_⟩, fun k hk => ?_⟩
  · show 1 ≤ G k ∧ G k ≤ 99
    rw [k3 k (by have : k < M.1.toNatClampNeg := hk; omega)]; exact h4.2 k hk
  · have hk2 : k < M.1.toNatClampNeg := hk
    show L.2.2.1 k = W k ∧ (L.2.2.1 k = 2 → L.2.2.2.1 k = D k ∧ 0 ≤ D k ∧ D k ≤ 99) ∧ L.2.2.2.2 k = sumR G (k + 1)
    rw [k1 k (by omega), k2 k (by omega), sum_cg (g := M.2.2.2.2) (k + 1) (fun j hj => k3 j (by omega))]
    exact h5 k hk2
/-- a train that was read, told -/
theorem jk_new {D : DT} {T ki wt ou ke le ho sk a : Row} {q : Nat} {fu fe : Int32} (hR : RJ D T q) (h1 : 1 ≤ q) (hf : 300 ≤ fu ∧ fu ≤ 900) (he : 1 ≤ fe ∧ fe ≤ 99) (ha : asT a) : JK (D.1, fu, fe, cpR ki D.2.1 (D.1 + 1).toNatClampNeg, cpR ou D.2.2.2.1 (D.1 + 1).toNatClampNeg, cpR ke D.2.2.2.2.1 (D.1 + 1).toNatClampNeg, cpR le D.2.2.2.2.2.1 (D.1 + 1).toNatClampNeg, cpR ho D.2.2.2.2.2.2.1 (D.1 + 1).toNatClampNeg, cpR sk D.2.2.2.2.2.2.2 (D.1 + 1).toNatClampNeg) (cpR wt D.2.2.1 (D.1 + 1).toNatClampNeg) (nI q) fu fe 1 (sh7 T 224) a := by
  obtain ⟨r1, r2, r3⟩ := hR
  have eq : (nI q).toNatClampNeg = q := nI_clamp (by omega)
  have eD : (D.1 + 1).toNatClampNeg = q + 1 := by rw [r1, show (1 : Int32) = nI 1 from rfl, nI_add, nI_clamp (by omega)]
  have hs : ∀ j b, j < 16 → b % 32 = 0 → b < 224 → sh7 T 224 (b + j) = T (b + 16 + j) := by
    intro j b hj hb hb2
    simp only [sh7]
    rw [if_pos ⟨by omega, by omega⟩]
    congr 1; omega
  have hc : ∀ (f g : Row) j, j < q → cpR f g (D.1 + 1).toNatClampNeg (j + 1) = g (j + 1) := by
    intro f g j hj
    simp only [cpR]
    rw [if_pos ⟨by omega, by omega⟩]
  refine ⟨⟨r1, rfl, rfl⟩, ⟨?_, ?_⟩, ⟨by grind, hf.2⟩, ⟨by grind, he.2⟩, Or.inr rfl, ?_, ?_, ha⟩
  · exact (nI_leq (show 1 < 2 ^ 31 by omega) (by omega)).mpr h1
  · exact (nI_leq (by omega) (show 16 < 2 ^ 31 by omega)).mpr r2
  · rw [L7_1]
    intro j hj
    rw [eq] at hj
    obtain ⟨⟨a1, a2, a3, a4, a5, a6, a7⟩, -⟩ := r3 j hj
    have h0 := hs j 0 (by omega) (by omega) (by omega)
    rw [Nat.zero_add] at h0
    rw [h0, hs j 32 (by omega) (by omega) (by omega), hs j 64 (by omega) (by omega) (by omega), hs j 96 (by omega) (by omega) (by omega), hs j 128 (by omega) (by omega) (by omega), hs j 160 (by omega) (by omega) (by omega), hs j 192 (by omega) (by omega) (by omega)]
    refine ⟨(hc _ _ j hj).trans (a1.trans (by congr 1 <;> omega)), (hc _ _ j hj).trans a2, (hc _ _ j hj).trans a3, (hc _ _ j hj).trans a4, (hc _ _ j hj).trans a5, (hc _ _ j hj).trans a6, (hc _ _ j hj).trans a7⟩
  · rw [L7_1]
    intro j hj
    rw [eq] at hj
    obtain ⟨-, b1, b2, b3, b4, b5, b6⟩ := r3 j hj
    have h0 := hs j 0 (by omega) (by omega) (by omega)
    rw [Nat.zero_add, Nat.zero_add] at h0
    rw [h0, hs j 32 (by omega) (by omega) (by omega), hs j 64 (by omega) (by omega) (by omega), hs j 96 (by omega) (by omega) (by omega), hs j 128 (by omega) (by omega) (by omega), hs j 160 (by omega) (by omega) (by omega)]
    exact ⟨b1, b2, b3, b4, b5, b6⟩
theorem cpy_20 (f g : Row) (j : Nat) (h : j < 20) : va_cpy f g 0 0 20 j = f j := by
  simp only [va_cpy]
  rw [if_pos ⟨Nat.zero_le _, by omega⟩, Nat.sub_zero, Nat.zero_add]
/-- a handle that was read, told -/
theorem lj_new {L : LV} {W D G A B C : Row} {q : Nat} {bo : Int32} (hH : HJ L W D G q) (hb : L.2.1 = bo) : LJ (L.1, L.2.1, va_cpy L.2.2.1 A 0 0 20, va_cpy L.2.2.2.1 B 0 0 20, va_cpy L.2.2.2.2 C 0 0 20) (nI q, bo, sh20 W 20, sh20 D 20, sh20 G 20) := by
  obtain ⟨h1, h2, h3, h4⟩ := hH
  have eq : (nI q).toNatClampNeg = q := nI_clamp (by omega)
  have hs : ∀ (f : Row) j, j < 20 → sh20 f 20 j = f (20 + j) := fun f j hj => by simp only [sh20]; rw [if_pos hj]
  have hc : ∀ (f g : Row) j, j < 20 → va_cpy f g 0 0 20 j = f j := cpy_20
  refine ⟨h1, ⟨nI_pos' (by omega), (nI_leq (by omega) (show 20 < 2 ^ 31 by omega)).mpr h2⟩, hb, ?_, ?_⟩
  · show lgB (sh20 G 20) (nI q).toNatClampNeg
    rw [eq]
    exact ⟨h2, fun k hk => by rw [hs G k (by omega)]; exact (h3 k hk).2.2⟩
  · intro k hk
    have hk2 : k < q := by rw [← eq]; exact hk
    show va_cpy L.2.2.1 A 0 0 20 k = sh20 W 20 k ∧ (va_cpy L.2.2.1 A 0 0 20 k = 2 → va_cpy L.2.2.2.1 B 0 0 20 k = sh20 D 20 k ∧ 0 ≤ sh20 D 20 k ∧ sh20 D 20 k ≤ 99) ∧ va_cpy L.2.2.2.2 C 0 0 20 k = sumR (sh20 G 20) (k + 1)
    rw [hc _ _ k (by omega), hc _ _ k (by omega), hc _ _ k (by omega), hs W k (by omega), hs D k (by omega)]
    obtain ⟨a1, a2, a3⟩ := h3 k hk2
    refine ⟨a1, a2, ?_⟩
    rw [h4 k hk2]
    exact sum_cg (k + 1) (fun j hj => (hs G j (by omega)).symm)
theorem hd_lj {c : Int32 × TS × LV} {g : Int32 × HSt} {bo : Int32} {L M : LV} (hL : LJ L M) (hJ : hdJ c g) (hb : ¬ g.1 = 0 → c.2.2.2.1 = bo) (hk : kH M.2.2.1 g.2.2.1 ∧ kH M.2.2.2.1 g.2.2.2.1 ∧ kH M.2.2.2.2 g.2.2.2.2.1) : LJ ((if c.1 = (-1) then L.1 else c.2.2.1), (if c.1 = (-1) then L.2.1 else c.2.2.2.1), (if c.1 = (-1) then L.2.2.1 else va_cpy c.2.2.2.2.1 L.2.2.1 0 0 20), (if c.1 = (-1) then L.2.2.2.1 else va_cpy c.2.2.2.2.2.1 L.2.2.2.1 0 0 20), (if c.1 = (-1) then L.2.2.2.2 else va_cpy c.2.2.2.2.2.2 L.2.2.2.2 0 0 20)) ((if g.1 = 0 then M.1 else g.2.2.2.2.2), (if g.1 = 0 then M.2.1 else bo), (if g.1 = 0 then g.2.2.1 else sh20 g.2.2.1 20), (if g.1 = 0 then g.2.2.2.1 else sh20 g.2.2.2.1 20), (if g.1 = 0 then g.2.2.2.2.1 else sh20 g.2.2.2.2.1 20)) := by
  rcases hJ with ⟨a, b, d⟩ | ⟨a, b, d, q, q1, q2, q3⟩
  · simp only [if_pos a, if_pos b]
    exact lj_kH hL hk.1 hk.2.1 hk.2.2
  · simp only [if_neg a, if_neg b]
    rw [q3]
    exact lj_new (L := c.2.2) q1 (hb b)
theorem hd_an {c : Int32 × TS × LV} {g : Int32 × HSt} (hJ : hdJ c g) : (if g.1 = 0 then (-1) - g.2.1.2.2.1 else g.2.2.2.2.2) = (if c.1 = (-1) then (-1) - c.2.1.2.2.2.2.2 else c.1) := by
  rcases hJ with ⟨a, b, d⟩ | ⟨a, b, d, q, q1, q2, q3⟩
  · rw [if_pos a, if_pos b, d.2]
  · rw [if_neg a, if_neg b, q2, q3]
theorem hd_f {c : Int32 × TS × LV} {g : Int32 × HSt} (hJ : hdJ c g) : c.2.1.2.2.2.2.1 = g.2.1.2.1 := by
  rcases hJ with ⟨a, b, d⟩ | ⟨a, b, d, e⟩
  · exact d.1
  · exact d

set_option maxHeartbeats 2000000 in
theorem s_train (E : En) (hM : q_okM E) (w : Wi) (z : Wj) (h : J w z) : PrS M_X11_train M_X12_train E [] w z := by
  obtain ⟨hT, hK, hL, hF, hR, hO, hG, hW, hB, hS⟩ := h
  obtain ⟨l1, l2, l3⟩ := lj_b hL
  obtain ⟨t1, t2, t3, t4⟩ := hT
  obtain ⟨kR, kB, kS, kW, kw, ka, kn⟩ := jk_all hK
  have kn1 : 1 ≤ w 1074 0 0 ∧ w 1074 0 0 ≤ 16 := hK.2.1
  have ki := hK.2.2.2.2.1
  have ke : w 500 0 0 = w 1074 0 0 := hK.1.1
  have hJ : trJ (trE ((w 41 0), (w 1062 0 0), (if (w 1062 0 0) < 700 then (w 1062 0 0) else 700)) (ltR ((w 41 0), (w 1062 0 0), (if (w 1062 0 0) < 700 then (w 1062 0 0) else 700)) 740 0 ((rdT ((w 41 0), (w 1062 0 0), (if (w 1062 0 0) < 700 then (w 1062 0 0) else 700)) ((w 743 0 0), 0, (w 742 0 0), (w 745 0 0), 0, 0)), (-1), (-1), (0, (w 30 1), (w 31 1), (w 32 1), (w 33 1), (w 34 1), (w 35 1), (w 36 1))))) (tdG ((w 41 0), (w 1062 0 0), 700) ((0, (w 1066 0 0), (w 1067 0 0), (w 1068 0 0), (z 1071 0 0)), 0, (w 1070 0 0), (w 1072 0 0)) (L7 (w 42 0) (w 1080 0 0))) := train_e t3 rfl
  have hk : kT (L7 (w 42 0) (w 1080 0 0)) (tdG ((w 41 0), (w 1062 0 0), 700) ((0, (w 1066 0 0), (w 1067 0 0), (w 1068 0 0), (z 1071 0 0)), 0, (w 1070 0 0), (w 1072 0 0)) (L7 (w 42 0) (w 1080 0 0))).2.2.2.1 := td_k
  refine ⟨P_X11_train w z, c_X11_train E hM.1 w z (by rw [t1]; exact t3.1) (by rw [t1]; exact t3.2), fun r W Z hp => ?_⟩
  obtain ⟨uh, hr, hu⟩ := hp
  cases hu
  refine ⟨P_X12_train _ _, c_X12_train E hM _ _ (by (try simp (disch := decide) only [wS_s, wS_t, wB_o, RW, LW, MW]); exact t3.1) (by (try simp (disch := decide) only [wS_s, wS_t, wB_o, RW, LW, MW]); exact t3.2) (by (try simp (disch := decide) only [wS_s, wS_t, wB_o, RW, LW, MW]); exact ki), fun r2 U Y hq => ?_⟩
  obtain ⟨hr2, hu2⟩ := hq
  cases hu2
  refine ⟨?_, J_mk ?_ ?_ ?_ ?_ ?_ ?_ ?_ ?_ ?_ ?_⟩
  · rw [hr, hr2]
    try simp (disch := decide) only [wS_s, wS_t, wB_o, RW, LW, MW]
    rw [t1, t2]
    rcases hJ with ⟨a, b, c⟩ | ⟨a, b, c, d, e⟩
    · rw [if_pos a, if_pos b, c.2]
    · rw [if_neg a, if_neg b, c]
  · (try simp (disch := decide) only [wS_s, wS_t, wB_o, RW, LW, MW]); exact ⟨rfl, t2, ⟨by decide, by decide⟩, t4⟩
  · try simp (disch := decide) only [wS_s, wS_t, wB_o, RW, LW, MW]
    rw [t1, t2]
    rcases hJ with ⟨a, b, c⟩ | ⟨a, b, c, d, q, q1, q2, q3, q4, q5, q6, q7⟩
    · simp only [if_pos a, if_pos b]
      exact jk_kT hK hk
    · simp only [if_neg a, if_neg b]
      rw [q3, ← q4, ← q5]
      exact jk_new q2 q1 q6 q7 hK.2.2.2.2.2.2.2
  · (try simp (disch := decide) only [wS_s, wS_t, wB_o, RW, LW, MW]); exact hL
  · try simp (disch := decide) only [wS_s, wS_t, wB_o, RW, LW, MW]
    rw [t1, t2]
    rcases hJ with ⟨a, b, c⟩ | ⟨a, b, c, d, e⟩
    · exact c.1
    · exact d
  · (try simp (disch := decide) only [wS_s, wS_t, wB_o, RW, LW, MW]); exact hR
  · (try simp (disch := decide) only [wS_s, wS_t, wB_o, RW, LW, MW]); exact hO
  · (try simp (disch := decide) only [wS_s, wS_t, wB_o, RW, LW, MW]); exact hG
  · (try simp (disch := decide) only [wS_s, wS_t, wB_o, RW, LW, MW]); exact hW
  · (try simp (disch := decide) only [wS_s, wS_t, wB_o, RW, LW, MW]); exact hB
  · (try simp (disch := decide) only [wS_s, wS_t, wB_o, RW, LW, MW]); exact hS
