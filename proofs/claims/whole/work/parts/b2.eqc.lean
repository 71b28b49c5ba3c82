/-! both sides: a tick -/
/-- the class's dumping and breaking against the reference's: t ticks are done -/
def dJ (du df : Int32) (t : Nat) : Prop := (¬ du = 0 ∧ df ≤ nI (t + 1)) ∨ (du = 0 ∧ 600 < df)
def bJ (bc bt pa pf : Int32) : Prop := (bc = (-1) ∧ bt = 0 ∧ 600 < pf) ∨ (¬ bc = (-1) ∧ bc = pa ∧ bt = pf)
abbrev cA (L : LV) (du st : Int32) : Int32 := if du ≠ 0 then 3 else stepF L.1 L.2.2.1 1 st
abbrev cM (L : LV) (st : Int32) : Int32 := stepF L.1 L.2.2.2.1 0 st
abbrev cB (bc bt ti : Int32) : Int32 := if bc ≠ (-1) ∧ bt ≤ ti then bc else (-1)
/-- both sides' air, t ticks done -/
def AR (R : RK) (L M : LV) (df pa pf : Int32) (t : Nat) (s : AS) (x : PTC) : Prop :=
  PA (R.1 + 1).toNatClampNeg (s.1, s.2.2.1, s.2.2.2.1) x ∧ PB (R.1 + 1).toNatClampNeg x ∧ s.2.2.2.2.1 = nI t ∧ sJ M s.2.2.2.2.2.1 t ∧ dJ s.2.2.2.2.2.2.1 df t ∧ bJ s.2.2.2.2.2.2.2.1 s.2.2.2.2.2.2.2.2.1 pa pf ∧
  (¬ s.2.2.2.2.2.2.2.2.2 = 0 → PA (R.1 + 1).toNatClampNeg (idT R L.2.1 (cA L s.2.2.2.2.2.2.1 s.2.2.2.2.2.1) (cM L s.2.2.2.2.2.1) (cB s.2.2.2.2.2.2.2.1 s.2.2.2.2.2.2.2.2.1 (nI t)) x) x)
theorem br_e {bc bt pa pf : Int32} {T : Nat} (h : bJ bc bt pa pf) (hT : T ≤ 600) : cB bc bt (nI T) = brG (nI T) pa pf := by
  have k : nI T ≤ 600 := nI_le (b := 600) hT (by omega)
  simp only [cB, brG]
  rcases h with ⟨h1, h2, h3⟩ | ⟨h1, h2, h3⟩
  · rw [if_neg (fun q => q.1 h1), if_neg (by grind)]
  · subst h2; subst h3
    by_cases q : bt ≤ nI T
    · rw [if_pos ⟨h1, q⟩, if_pos q]
    · rw [if_neg (fun z => q z.2), if_neg q]
theorem dJ_n {du df : Int32} {t : Nat} (h : dJ du df t) (ht : t < 1000) : dJ du df (t + 1) := by
  rcases h with ⟨h1, h2⟩ | h
  · refine Or.inl ⟨h1, ?_⟩
    have := (nI_leq (a := t + 1) (b := t + 1 + 1) (by omega) (by omega)).mpr (by omega)
    exact Int32.le_trans h2 this
  · exact Or.inr h
theorem acts_e {L M : LV} (h : LJ L M) {st du df : Int32} {t : Nat} (ht : t < 600) (g : sJ M st (t + 1)) (hd : dJ du df t) : cA L du st = whG M (nI (t + 1)) df ∧ (cA L du st = 2 → cM L st = drG M (nI (t + 1)) ∧ 0 ≤ drG M (nI (t + 1)) ∧ drG M (nI (t + 1)) ≤ 99) := by
  have k : nI (t + 1) ≤ 600 := nI_le (b := 600) (by omega) (by omega)
  rcases hd with ⟨h1, h2⟩ | ⟨h1, h2⟩
  · have e : whG M (nI (t + 1)) df = 3 := by simp only [whG]; rw [if_pos h2]
    simp only [cA]
    rw [if_pos h1, e]
    exact ⟨rfl, fun q => absurd q (by decide)⟩
  · obtain ⟨a, b⟩ := act_e h (df := df) (T := t + 1) (by omega) (by omega) g (by grind)
    simp only [cA]
    rw [if_neg (not_not_intro h1), a]
    exact ⟨rfl, b⟩
/-- amounts matter only where the handle draws -/
theorem work_am {full feed : Int32} {p : Row} {act am an c : Int32} (h : act = 2 → am = an) : workG full feed p act am c = workG full feed p act an c := by
  by_cases q : act = 2
  · rw [h q]
  · simp only [workG]; rw [if_neg q, if_neg q]
theorem idT_am {R : RK} {bo act am an br : Int32} {x : PTC} (h : act = 2 → am = an) : idT R bo act am br x = idT R bo act an br x := by
  have e : ∀ p : Row, idQ R bo act am br p = idQ R bo act an br p := by
    intro p
    simp only [idQ]
    rw [work_am (c := 0) h, work_am (c := R.1) (p := workG R.2.1 R.2.2.1 p act an 0) h]
  simp only [idT, e]
theorem AR_n {R : RK} {L M : LV} {df pa pf : Int32} {t : Nat} {s : AS} {x : PTC} (hR : RB R) (hL : LJ L M) (ht : t < 600) (h : AR R L M df pa pf t s x) :
    AR R L M df pa pf (t + 1) (advF R L s) (tkG R M df pa pf (nI (t + 1)) x) ∧ (¬ (advF R L s).2.2.2.2.2.2.2.2.2 = 0 → PA (R.1 + 1).toNatClampNeg (tkG R M df pa pf (nI (t + 1)) x) x) := by
  obtain ⟨p, b, tk, c, ti, st, du, bc, bt, sl⟩ := s
  obtain ⟨hA, hB, e1, hs, hd, hb, hst⟩ := h
  dsimp only at hA hB e1 hs hd hb hst
  subst e1
  have n1 := hR.1.1
  have n2 := hR.1.2
  have eti : nI t + 1 = nI (t + 1) := nI_1 t
  have hs2 := sJ_n hL (T := t) (by omega) hs
  have hd2 := dJ_n hd (by omega)
  have ac := acts_e hL ht hs2 hd
  have hbr := br_e (T := t + 1) hb (by omega)
  have ec : tkG R M df pa pf (nI (t + 1)) x = idT R L.2.1 (cA L du (if overF L.1 L.2.2.2.2 st (nI (t + 1)) ≠ 0 then st + 1 else st)) (cM L (if overF L.1 L.2.2.2.2 st (nI (t + 1)) ≠ 0 then st + 1 else st)) (cB bc bt (nI (t + 1))) x := by
    simp only [tkG]
    rw [← ac.1, ← hbr, hL.2.2.1]
    exact idT_am (fun q => ((ac.2 q).1).symm)
  have hn : ∀ j T : Nat, True := fun _ _ => trivial
  generalize hv : (if overF L.1 L.2.2.2.2 st (nI (t + 1)) ≠ 0 then st + 1 else st) = st2 at hs2 ac ec
  have hB2 : PB (R.1 + 1).toNatClampNeg (tkG R M df pa pf (nI (t + 1)) x) := by
    rw [ec]
    exact idT_b hR (fun q => by rw [(ac.2 q).1]; exact (ac.2 q).2) hB
  by_cases q : (if nI (t + 1) = bt then (0 : Int32) else if overF L.1 L.2.2.2.2 st (nI (t + 1)) ≠ 0 then 0 else sl) ≠ 0
  · -- nothing is done
    have q1 : ¬ nI (t + 1) = bt := fun z => q (if_pos z)
    have q2 : ¬ overF L.1 L.2.2.2.2 st (nI (t + 1)) ≠ 0 := fun z => q (by rw [if_neg q1, if_pos z])
    have q3 : ¬ sl = 0 := fun z => q (by rw [if_neg q1, if_neg q2, z])
    rw [if_neg q2] at hv
    subst hv
    have hi := hst q3
    have eb : cB bc bt (nI t) = cB bc bt (nI (t + 1)) := by
      simp only [cB]
      have z : bt ≤ nI (t + 1) ↔ bt ≤ nI t := by
        rw [← eti] at q1 ⊢
        have k : nI t ≤ 600 := nI_le (b := 600) (by omega) (by omega)
        have k2 : 0 ≤ nI t := nI_le (a := 0) (Nat.zero_le _) (by omega)
        constructor <;> intro y <;> grind
      by_cases y : bc ≠ (-1) ∧ bt ≤ nI t
      · rw [if_pos y, if_pos ⟨y.1, z.mpr y.2⟩]
      · rw [if_neg y, if_neg (fun w => y ⟨w.1, z.mp w.2⟩)]
    rw [eb, ← ec] at hi
    have eA : advF R L (p, b, tk, c, nI t, st, du, bc, bt, sl) = (p, b, tk, c, nI (t + 1), st, du, bc, bt, sl) := by
      simp only [advF, eti]
      rw [if_pos q, if_neg q1, if_neg q2, if_neg q2]
    rw [eA]
    refine ⟨⟨hA.tr hi.sm, hB2, rfl, hs2, hd2, hb, fun _ => ?_⟩, fun _ => hi⟩
    dsimp only
    have z := idT_pa n1 n2 L.2.1 (cA L du st) (cM L st) (cB bc bt (nI (t + 1))) hi
    rw [← ec] at z
    exact z
  · have eA : advF R L (p, b, tk, c, nI t, st, du, bc, bt, sl) = ((tailF R L.2.1 (cA L du st2) (cM L st2) (cB bc bt (nI (t + 1))) p b tk c).1, (tailF R L.2.1 (cA L du st2) (cM L st2) (cB bc bt (nI (t + 1))) p b tk c).2.1, (tailF R L.2.1 (cA L du st2) (cM L st2) (cB bc bt (nI (t + 1))) p b tk c).2.2.1, (tailF R L.2.1 (cA L du st2) (cM L st2) (cB bc bt (nI (t + 1))) p b tk c).2.2.2.1, nI (t + 1), st2, du, bc, bt, (tailF R L.2.1 (cA L du st2) (cM L st2) (cB bc bt (nI (t + 1))) p b tk c).2.2.2.2) := by
      simp only [advF, eti]
      rw [if_neg q, hv]
    have hPB : PB (R.1 + 1).toNatClampNeg (p, tk, c) := PB_pa hA.sm hB
    have ti := tail_id hR (bo := L.2.1) (act := cA L du st2) (am := cM L st2) (br := cB bc bt (nI (t + 1))) (b := b) (fun q => by rw [(ac.2 q).1]; exact (ac.2 q).2) hPB
    have tp := idT_pa n1 n2 L.2.1 (cA L du st2) (cM L st2) (cB bc bt (nI (t + 1))) hA
    rw [← ti, ← ec] at tp
    have ts : ¬ (tailF R L.2.1 (cA L du st2) (cM L st2) (cB bc bt (nI (t + 1))) p b tk c).2.2.2.2 = 0 → PA (R.1 + 1).toNatClampNeg (tkG R M df pa pf (nI (t + 1)) x) x := fun z =>
      tp.sm.tr ((tail_st n1 n2 z).tr hA)
    rw [eA]
    refine ⟨⟨tp, hB2, rfl, hs2, hd2, hb, fun z => ?_⟩, ts⟩
    dsimp only at z ⊢
    have y := idT_pa n1 n2 L.2.1 (cA L du st2) (cM L st2) (cB bc bt (nI (t + 1))) (ts z)
    rw [← ec] at y
    exact y
/-- at the start -/
theorem AR_0 {R : RK} {L M : LV} (hR : RB R) (hL : LJ L M) {bc bt pa pf df : Int32} (hb : bJ bc bt pa pf) (hd : 600 < df) : AR R L M df pa pf 0 ((st0 R.2.1).1, (st0 R.2.1).2.1, (st0 R.2.1).2.2.1, (st0 R.2.1).2.2.2.1, 0, 0, 0, bc, bt, 0) (c0G R) := by
  refine ⟨PA.rf _, ?_, rfl, sJ_0 hL, Or.inr ⟨rfl, hd⟩, hb, fun z => absurd rfl z⟩
  exact ⟨fun k _ => hR.2.1, fun k _ => hR.2.1, fun k _ => ⟨by show (0 : Int32) ≤ 0; decide, by show (0 : Int32) ≤ 500; decide⟩⟩
theorem bJ_no : bJ (-1) 0 0 601 := Or.inl ⟨rfl, rfl, by decide⟩
theorem AR_st {R : RK} {L M : LV} (hR : RB R) (hL : LJ L M) : AR R L M 601 0 601 0 (st0 R.2.1) (c0G R) := AR_0 hR hL bJ_no (by decide)
/-- many ticks -/
theorem AR_m {R : RK} {L M : LV} {df pa pf : Int32} (hR : RB R) (hL : LJ L M) : ∀ (m t : Nat) {s : AS} {x : PTC}, t + m ≤ 600 → AR R L M df pa pf t s x → AR R L M df pa pf (t + m) (itA R L m s) (plG R M df pa pf m (nI (t + 1)) x) := by
  intro m
  induction m with
  | zero => intro t s x _ h; exact h
  | succ m ih =>
    intro t s x ht h
    have a := (AR_n hR hL (by omega) h).1
    have b := ih (t + 1) (by omega) a
    simp only [itA, plG]
    rw [nI_1, show t + (m + 1) = t + 1 + m by omega]
    exact b
theorem it_pl {R : RK} {L M : LV} (hR : RB R) (hL : LJ L M) {m : Nat} (hm : m ≤ 600) : PA (R.1 + 1).toNatClampNeg ((itA R L m (st0 R.2.1)).1, (itA R L m (st0 R.2.1)).2.2.1, (itA R L m (st0 R.2.1)).2.2.2.1) (plG R M 601 0 601 m 1 (c0G R)) := by
  have h := AR_m hR hL m 0 (by omega) (AR_st hR hL)
  exact h.1
theorem cl600 : (600 : Int32).toNatClampNeg = 600 := rfl
theorem he_e {R : RK} {L M : LV} (hR : RB R) (hL : LJ L M) {c : Int32} (h1 : 1 ≤ c) (h2 : c ≤ R.1) : ∀ (m t : Nat) {s : AS} {x : PTC}, t + m ≤ 600 → AR R L M 601 0 601 t s x → heR R L c m (nI (t + 1)) s = heG R M c m (nI (t + 1)) x := by
  have hc : c.toNatClampNeg < (R.1 + 1).toNatClampNeg := (cl_lt (by grind) (by have := hR.1.1; have := hR.1.2; grind)).mpr (by have := hR.1.1; have := hR.1.2; grind)
  intro m
  induction m with
  | zero => intro t s x _ _; rfl
  | succ m ih =>
    intro t s x ht h
    have a := (AR_n hR hL (by omega) h).1
    simp only [heR, heG]
    have e : (advF R L s).2.2.2.1 c.toNatClampNeg = (tkG R M 601 0 601 (nI (t + 1)) x).2.2 c.toNatClampNeg := a.1.2.2 _ hc
    rw [e, nI_1, ih (t + 1) (by omega) a]
theorem anyR_agn {c c2 : Row} : ∀ {n : Nat}, agn n c c2 → anyR c n = anyR c2 n := by
  intro n
  induction n with
  | zero => intro _; rfl
  | succ n ih => intro h; simp only [anyR]; rw [ih (fun k hk => h k (by omega)), h n (by omega)]
theorem ea_e {R : RK} {L M : LV} (hR : RB R) (hL : LJ L M) : ∀ (m t : Nat) (hd : Int32) {s : AS} {x : PTC}, t + m ≤ 600 → AR R L M 601 0 601 t s x → eaR R L m (nI (t + 1)) hd s = ea2 R M m (nI (t + 1)) hd x := by
  intro m
  induction m with
  | zero => intro t hd s x _ _; rfl
  | succ m ih =>
    intro t hd s x ht h
    have a := (AR_n hR hL (by omega) h).1
    simp only [eaR, ea2]
    have e : anyR (advF R L s).2.2.2.1 (R.1 + 1).toNatClampNeg = anyR (tkG R M 601 0 601 (nI (t + 1)) x).2.2 (R.1 + 1).toNatClampNeg := anyR_agn a.1.2.2
    rw [e, nI_1, ih (t + 1) _ (by omega) a]
