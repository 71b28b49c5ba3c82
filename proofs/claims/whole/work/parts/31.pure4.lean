/-! what lies behind place 16 of a row doesn't matter -/
def ag (f g : Row) : Prop := ∀ k, k < 17 → f k = g k
theorem ag_upd {f g : Row} (h : ag f g) (i : Nat) (x : Int32) : ag (upd f i x) (upd g i x) := by
  intro k hk
  by_cases q : k = i
  · subst q; rw [upd_s, upd_s]
  · rw [upd_n _ _ q, upd_n _ _ q]; exact h k hk
theorem cl_b {c : Int32} (h : ¬ (c < 0 ∨ 17 ≤ c)) : c.toNatClampNeg < 17 := by
  have h1 : (0 : Int32) ≤ c := by grind
  have h2 := (cl_lt h1 (show (0 : Int32) ≤ 17 by decide)).mpr (by grind)
  exact h2
theorem workF_ag {full feed : Int32} {p q : Row} (h : ag p q) (act am c : Int32) : ag (workF full feed p act am c) (workF full feed q act am c) := by
  by_cases hc : c < 0 ∨ 17 ≤ c
  · simp only [workF, if_pos hc]; exact h
  · have e := h _ (cl_b hc)
    simp only [workF, if_neg hc, e]
    split
    · exact ag_upd h _ _
    · split
      · exact ag_upd h _ _
      · split
        · exact ag_upd h _ _
        · exact h
theorem flR_ag {p q : Row} (h : ag p q) (ho : Row) (br : Int32) : ag (flR p ho br) (flR q ho br) := by
  intro k hk
  simp only [flR, h k hk, h (k - 1) (by omega)]
theorem fwR_ag {p q f g : Row} (h : ag p q) (h2 : ag f g) {n : Nat} (hn : n ≤ 17) : ag (fwR p f n) (fwR q g n) := by
  intro k hk
  simp only [fwR, h k hk, h2 k hk]
  by_cases h3 : k + 1 < n
  · rw [if_pos h3, if_pos h3, h2 (k + 1) (by omega)]
  · rw [if_neg h3, if_neg h3]
theorem sz_b {n : Int32} (h1 : 0 ≤ n) (h2 : n ≤ 16) : (n + 1).toNatClampNeg ≤ 17 := by
  have := (cl_le (x := n + 1) (y := 17) (by grind) (by decide)).mpr (by grind)
  exact this
theorem flowF_ag {n : Int32} (h1 : 0 ≤ n) (h2 : n ≤ 16) {p q : Row} (h : ag p q) (ho : Row) (br : Int32) : ag (flowF n ho p br) (flowF n ho q br) := by
  have h3 := fwR_ag h (flR_ag h ho br) (sz_b h1 h2)
  simp only [flowF]
  split
  · exact ag_upd (ag_upd h3 _ _) _ _
  · exact h3
theorem cpR_ag {f g f2 g2 : Row} (h : ag f f2) (h2 : ag g g2) (n : Nat) : ag (cpR f g n) (cpR f2 g2 n) := by
  intro k hk
  simp only [cpR, h k hk, h2 k hk]
theorem mvR_ag {m m2 : Row} (h : ag m m2) {n : Nat} (hn : n ≤ 17) : mvR m n = mvR m2 n := by
  induction n with
  | zero => rfl
  | succ n ih => simp only [mvR, ih (by omega), h n (by omega)]
theorem sameR_ag {p q b c : Row} (h : ag p q) (h2 : ag b c) {n : Nat} (hn : n ≤ 17) : sameR p b n = sameR q c n := by
  induction n with
  | zero => rfl
  | succ n ih => simp only [sameR, ih (by omega), h n (by omega), h2 n (by omega)]
theorem cell_ag (R : RK) {q q2 t t2 c c2 : Row} (h1 : ag q q2) (h2 : ag t t2) (h3 : ag c c2) {k : Nat} (hk : k < 17) : cellF R q t c k = cellF R q2 t2 c2 k := by
  simp only [cellF, h1 k hk, h2 k hk, h3 k hk]
theorem cpy_ag {p q b c : Row} (h : ag p q) : ag (va_cpy p b 0 0 17) (va_cpy q c 0 0 17) := by
  intro k hk
  rw [pk_cpy_in (by omega) (by omega), pk_cpy_in (by omega) (by omega)]
  exact h _ (by omega)
theorem tailF_ag {R : RK} (h1 : 0 ≤ R.1) (h2 : R.1 ≤ 16) (both act amt br : Int32) {p q b b2 t t2 c c2 : Row} (hp : ag p q) (ht : ag t t2) (hc : ag c c2) :
    ag (tailF R both act amt br p b t c).1 (tailF R both act amt br q b2 t2 c2).1 ∧ ag (tailF R both act amt br p b t c).2.2.1 (tailF R both act amt br q b2 t2 c2).2.2.1 ∧ ag (tailF R both act amt br p b t c).2.2.2.1 (tailF R both act amt br q b2 t2 c2).2.2.2.1 ∧ (tailF R both act amt br p b t c).2.2.2.2 = (tailF R both act amt br q b2 t2 c2).2.2.2.2 := by
  have w1 := workF_ag (full := R.2.1) (feed := R.2.2.1) hp act amt 0
  have w2 : ag (if both ≠ 0 then workF R.2.1 R.2.2.1 (workF R.2.1 R.2.2.1 p act amt 0) act amt R.1 else workF R.2.1 R.2.2.1 p act amt 0) (if both ≠ 0 then workF R.2.1 R.2.2.1 (workF R.2.1 R.2.2.1 q act amt 0) act amt R.1 else workF R.2.1 R.2.2.1 q act amt 0) := by
    split
    · exact workF_ag w1 _ _ _
    · exact w1
  have f := flowF_ag h1 h2 w2 R.2.2.2.2.2.2.2.1 br
  have hn := sz_b h1 h2
  have gm : ag (gM R _ t c) (gM R _ t2 c2) := fun k hk => by simp only [gM]; rw [cell_ag R f ht hc hk]
  have gp : ag (gP R _ t c) (gP R _ t2 c2) := fun k hk => by simp only [gP]; rw [cell_ag R f ht hc hk]
  have gt : ag (gT R _ t c) (gT R _ t2 c2) := fun k hk => by simp only [gT]; rw [cell_ag R f ht hc hk]
  have gc : ag (gC R _ t c) (gC R _ t2 c2) := fun k hk => by simp only [gC]; rw [cell_ag R f ht hc hk]
  refine ⟨cpR_ag f gp _, cpR_ag ht gt _, cpR_ag hc gc _, ?_⟩
  simp only [tailF]
  rw [mvR_ag gm hn, sameR_ag (cpR_ag f gp _) (cpy_ag (b := b) (c := b2) hp) hn]
/-- two states of the air that are alike as far as anything is asked of them -/
def AE (s t : AS) : Prop := ag s.1 t.1 ∧ ag s.2.2.1 t.2.2.1 ∧ ag s.2.2.2.1 t.2.2.2.1 ∧ s.2.2.2.2 = t.2.2.2.2
theorem AE.rf (s : AS) : AE s s := ⟨fun _ _ => rfl, fun _ _ => rfl, fun _ _ => rfl, rfl⟩
theorem advF_ae {R : RK} (h1 : 0 ≤ R.1) (h2 : R.1 ≤ 16) (L : LV) {s t : AS} (h : AE s t) : AE (advF R L s) (advF R L t) := by
  obtain ⟨p, b, tk, c, x⟩ := s
  obtain ⟨p2, b2, tk2, c2, x2⟩ := t
  obtain ⟨hp, ht, hc, hx⟩ := h
  dsimp only at hp ht hc hx
  subst hx
  by_cases q : (if x.1 + 1 = x.2.2.2.2.1 then (0 : Int32) else if overF L.1 L.2.2.2.2 x.2.1 (x.1 + 1) ≠ 0 then 0 else x.2.2.2.2.2) ≠ 0
  · simp only [advF, if_pos q]
    exact ⟨hp, ht, hc, rfl⟩
  · simp only [advF, if_neg q]
    obtain ⟨a1, a2, a3, a4⟩ := tailF_ag h1 h2 L.2.1 (if x.2.2.1 ≠ 0 then 3 else stepF L.1 L.2.2.1 1 (if overF L.1 L.2.2.2.2 x.2.1 (x.1 + 1) ≠ 0 then x.2.1 + 1 else x.2.1)) (stepF L.1 L.2.2.2.1 0 (if overF L.1 L.2.2.2.2 x.2.1 (x.1 + 1) ≠ 0 then x.2.1 + 1 else x.2.1)) (if x.2.2.2.1 ≠ (-1) ∧ x.2.2.2.2.1 ≤ x.1 + 1 then x.2.2.2.1 else (-1)) (b := b) (b2 := b2) hp ht hc
    refine ⟨a1, a2, a3, ?_⟩
    dsimp only
    rw [a4]
theorem brkR_ag (out : Row) {c c2 : Row} (h : ag c c2) (snow : Int32) {n : Nat} (hn : n ≤ 17) : brkR out c snow n = brkR out c2 snow n := by
  induction n with
  | zero => rfl
  | succ n ih =>
    cases n with
    | zero => rfl
    | succ n => simp only [brkR, ih (by omega), h (n + 1) (by omega)]
theorem rollF_ag {R : RK} (h1 : 0 ≤ R.1) (h2 : R.1 ≤ 16) (wt : Row) {c c2 : Row} (h : ag c c2) (still : Int32) (d : RS) : rollF R wt c still d = rollF R wt c2 still d := by
  simp only [rollF, brkR_ag _ h _ (sz_b h1 h2)]
theorem stepX_ae {R : RK} (h1 : 0 ≤ R.1) (h2 : R.1 ≤ 16) (wt : Row) (L : LV) {s t : AS} (h : AE s t) (d : RS) : AE (stepX R wt L (s, d)).1 (stepX R wt L (t, d)).1 ∧ (stepX R wt L (s, d)).2 = (stepX R wt L (t, d)).2 := by
  have a := advF_ae h1 h2 L h
  refine ⟨a, ?_⟩
  simp only [stepX]
  rw [rollF_ag h1 h2 wt a.2.2.1, a.2.2.2]
theorem spanX_ae {lim : Int32} {R : RK} (h1 : 0 ≤ R.1) (h2 : R.1 ≤ 16) (wt : Row) (L : LV) (n : Nat) : ∀ {s t : AS} (d : RS), AE s t → AE (spanX lim R wt L n (s, d)).1 (spanX lim R wt L n (t, d)).1 ∧ (spanX lim R wt L n (s, d)).2 = (spanX lim R wt L n (t, d)).2 := by
  induction n with
  | zero => intro s t d h; exact ⟨h, rfl⟩
  | succ n ih =>
    intro s t d h
    by_cases q : d.2.2.2.2.1 = 0 ∨ 600 ≤ d.2.2.2.2.2.1 ∨ ¬ d.2.2.2.1 ≤ lim
    · rw [spanX_stop q, spanX_stop q]; exact ⟨h, rfl⟩
    · rw [spanX_go q, spanX_go q]
      obtain ⟨a, b⟩ := stepX_ae h1 h2 wt L h d
      rw [show stepX R wt L (s, d) = ((stepX R wt L (s, d)).1, (stepX R wt L (s, d)).2) from rfl, show stepX R wt L (t, d) = ((stepX R wt L (t, d)).1, (stepX R wt L (t, d)).2) from rfl, b]
      exact ih _ a
theorem spanV_ae {lim : Int32} {R : RK} (h1 : 0 ≤ R.1) (h2 : R.1 ≤ 16) (wt : Row) (L : LV) (n : Nat) {s t : AS} (d : RS) (h : AE s t) : spanV lim (spanX lim R wt L n (s, d)) = spanV lim (spanX lim R wt L n (t, d)) := by
  simp only [spanV, (spanX_ae h1 h2 wt L n d h).2]
/-- the air at the start -/
def st0 (full : Int32) : AS := (fun _ => full, fun _ => 0, fun _ => full, fun _ => 0, 0, 0, 0, (-1), 0, 0)
def rd0 (g sp sn : Int32) : RS := (g, sn, 0, 0, sp, 0, sp)
theorem st0_ae (full : Int32) (p b t c : Row) (k tk : Int32) : AE (fillR p full 17, b, fillR t full 17, fillR c 0 17, 0, 0, 0, k, tk, 0) ((st0 full).1, (st0 full).2.1, (st0 full).2.2.1, (st0 full).2.2.2.1, 0, 0, 0, k, tk, 0) :=
  ⟨fun j hj => by simp only [fillR, if_pos hj, st0], fun j hj => by simp only [fillR, if_pos hj, st0], fun j hj => by simp only [fillR, if_pos hj, st0], rfl⟩
