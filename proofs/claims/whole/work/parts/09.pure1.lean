theorem nI_cl {c : Int32} (h : 0 ≤ c) : nI c.toNatClampNeg = c := by
  have h1 := cl_toInt h
  have h2 : c.toNatClampNeg < 2 ^ 31 := by
    have := Int32.toInt_lt c
    omega
  exact Int32.toInt_inj.mp (by rw [nI_toInt h2]; omega)
theorem nb {v : Int32} (h : v = 0 ∨ v = 1) : narrow .boolean (.int v) = .int v := by rcases h with rfl | rfl <;> rfl
theorem fb {v : Int32} (h : v = 0 ∨ v = 1) : fits .boolean (.int v) = true := by rcases h with rfl | rfl <;> rfl
theorem swo {x L H : Int32} {lo hi : Int} (s : x.toInt < lo ∨ hi < x.toInt) (h1 : L.toInt = lo) (h2 : H.toInt = hi) : x < L ∨ H < x := by
  rw [in_toInt, in_toInt, h1, h2]; exact s
theorem cpR_c (f g : Row) (c : Nat) : cpR f g c c = f c := by simp only [cpR]; rw [if_neg (by omega)]
/-- the handle's step: is it over ahead of tick -/
def overF (size : Int32) (last : Row) (step tick : Int32) : Int32 := if 0 ≤ step ∧ step < size - 1 ∧ step < 20 ∧ last step.toNatClampNeg < tick then 1 else 0
def stepF (size : Int32) (f : Row) (d step : Int32) : Int32 := if 0 ≤ step ∧ step < size ∧ step < 20 then f step.toNatClampNeg else d
def workF (full feed : Int32) (p : Row) (act amount cell : Int32) : Row :=
  if cell < 0 ∨ 17 ≤ cell then p
  else if act = 0 ∧ p cell.toNatClampNeg < full then upd p cell.toNatClampNeg (if p cell.toNatClampNeg + feed < full then p cell.toNatClampNeg + feed else full)
  else if act = 2 then upd p cell.toNatClampNeg (if 0 < p cell.toNatClampNeg - amount then p cell.toNatClampNeg - amount else 0)
  else if act = 3 then upd p cell.toNatClampNeg 0 else p
def flR (p hose : Row) (br : Int32) : Row := fun k => if nI k - 1 = br then 0 else (p (k - 1) - p k) * hose k / 400
def flowF (size : Int32) (hose p : Row) (br : Int32) : Row :=
  if 0 ≤ br ∧ br < 16 then upd (upd (fwR p (flR p hose br) (size + 1).toNatClampNeg) br.toNatClampNeg 0) (br + 1).toNatClampNeg 0 else fwR p (flR p hose br) (size + 1).toNatClampNeg
def sens (kind : Int32) : Int32 := if kind = 1 then 10 else if kind = 2 then 30 else 20
def ratF (kind : Int32) : Int32 := if kind = 1 then 30 else if kind = 2 then 12 else 20
def easF (kind : Int32) : Int32 := if kind = 1 then 40 else if kind = 2 then 12 else 30
/-- a valve: moved, PRESSURE, TANK, CYLINDER -/
def vlv (kind stuck keep p t c : Int32) : Int32 × Int32 × Int32 × Int32 :=
  if p - t < -sens kind ∧ stuck ≠ 2 then
    (1, (if kind = 1 then (if 0 < p - 8 then p - 8 else 0) else p), t - (if -(p - t) < ratF kind then -(p - t) else ratF kind),
      if c + 2 * (if -(p - t) < ratF kind then -(p - t) else ratF kind) < 500 then c + 2 * (if -(p - t) < ratF kind then -(p - t) else ratF kind) else 500)
  else if sens kind < p - t then
    (1, p - (if (p - t) / 2 < 10 then (p - t) / 2 else 10), t + (if (p - t) / 2 < 10 then (p - t) / 2 else 10),
      if stuck ≠ 1 ∧ 100 * keep < c then (if 100 * keep < c - easF kind then c - easF kind else 100 * keep) else c)
  else (0, p, t, c)
/-- rows of a train: size full feed kind out keep leak hose stuck -/
abbrev RK : Type := Int32 × Int32 × Int32 × Row × Row × Row × Row × Row × Row
abbrev LV : Type := Int32 × Int32 × Row × Row × Row
/-- pressure before tank cylinder tick step dumping brokenCell brokenTick still -/
abbrev AS : Type := Row × Row × Row × Row × Int32 × Int32 × Int32 × Int32 × Int32 × Int32
def cellF (R : RK) (q t cy : Row) (k : Nat) : Int32 × Int32 × Int32 × Int32 :=
  if R.2.2.2.2.1 k = 0 then vlv (R.2.2.2.1 k) (R.2.2.2.2.2.2.2.2 k) (R.2.2.2.2.2.1 k) (q k - q k * R.2.2.2.2.2.2.1 k / 1000) (t k) (cy k)
  else (0, q k - q k * R.2.2.2.2.2.2.1 k / 1000, t k, cy k)
def gM (R : RK) (q t cy : Row) : Row := fun k => (cellF R q t cy k).1
def gP (R : RK) (q t cy : Row) : Row := fun k => (cellF R q t cy k).2.1
def gT (R : RK) (q t cy : Row) : Row := fun k => (cellF R q t cy k).2.2.1
def gC (R : RK) (q t cy : Row) : Row := fun k => (cellF R q t cy k).2.2.2
def mvR (m : Row) : Nat → Int32
  | 0 => 0
  | k + 1 => if 1 ≤ k ∧ m k ≠ 0 then 1 else mvR m k
def sameR (p b : Row) : Nat → Int32
  | 0 => 1
  | k + 1 => if sameR p b k = 1 ∧ p k = b k then 1 else 0
theorem sameR_01 (p b : Row) (k : Nat) : sameR p b k = 0 ∨ sameR p b k = 1 := by
  cases k with
  | zero => exact Or.inr rfl
  | succ k => simp only [sameR]; grind
theorem sameR_f (p b : Row) {k : Nat} (h : p k ≠ b k) : ∀ m, sameR p b (k + 1 + m) = 0 := by
  intro m
  induction m with
  | zero => simp only [Nat.add_zero, sameR]; rw [if_neg (fun q => h q.2)]
  | succ m ih => rw [← Nat.add_assoc]; simp only [sameR]; rw [if_neg (fun q => by rw [ih] at q; exact absurd q.1 (by decide))]
theorem sameR_lt (p b : Row) {k n : Nat} (h : p k ≠ b k) (hn : k < n) : sameR p b n = 0 := by
  obtain ⟨m, rfl⟩ : ∃ m, n = k + 1 + m := ⟨n - (k + 1), by omega⟩
  exact sameR_f p b h m
/-- what a tick does behind the handle's step: act, amount, broken cell given -/
def tailF (R : RK) (both : Int32) (act amt br : Int32) (p b t c : Row) : Row × Row × Row × Row × Int32 :=
  let p1 := workF R.2.1 R.2.2.1 p act amt 0
  let p2 := if both ≠ 0 then workF R.2.1 R.2.2.1 p1 act amt R.1 else p1
  let q := flowF R.1 R.2.2.2.2.2.2.2.1 p2 br
  let n := (R.1 + 1).toNatClampNeg
  let b2 := va_cpy p b 0 0 17
  (cpR q (gP R q t c) n, b2, cpR t (gT R q t c) n, cpR c (gC R q t c) n, if mvR (gM R q t c) n = 0 ∧ sameR (cpR q (gP R q t c) n) b2 n = 1 then 1 else 0)
def advF (R : RK) (L : LV) (s : AS) : AS :=
  let tick := s.2.2.2.2.1 + 1
  let ov := overF L.1 L.2.2.2.2 s.2.2.2.2.2.1 tick
  let step := if ov ≠ 0 then s.2.2.2.2.2.1 + 1 else s.2.2.2.2.2.1
  let sl := if ov ≠ 0 then 0 else s.2.2.2.2.2.2.2.2.2
  let sl2 := if tick = s.2.2.2.2.2.2.2.2.1 then 0 else sl
  if sl2 ≠ 0 then (s.1, s.2.1, s.2.2.1, s.2.2.2.1, tick, step, s.2.2.2.2.2.2.1, s.2.2.2.2.2.2.2.1, s.2.2.2.2.2.2.2.2.1, sl2)
  else
    let act := if s.2.2.2.2.2.2.1 ≠ 0 then 3 else stepF L.1 L.2.2.1 1 step
    let amt := stepF L.1 L.2.2.2.1 0 step
    let br := if s.2.2.2.2.2.2.2.1 ≠ (-1) ∧ s.2.2.2.2.2.2.2.2.1 ≤ tick then s.2.2.2.2.2.2.2.1 else (-1)
    let f := tailF R L.2.1 act amt br s.1 s.2.1 s.2.2.1 s.2.2.2.1
    (f.1, f.2.1, f.2.2.1, f.2.2.2.1, tick, step, s.2.2.2.2.2.2.1, s.2.2.2.2.2.2.2.1, s.2.2.2.2.2.2.2.2.1, f.2.2.2.2)
section RV
variable {K : Pk} {E : En} {A : Nat → Prop} {nL : Nat} {Q : State → Prop} {pc : Nat} {lv : List (Nat × Value)} {st : List Value} {w : Wi} {z : Wj}
theorem v_le {lv2 : List (Nat × Value)} (h : lv = lv2) (k : V K E A nL Q pc lv2 st w z) : V K E A nL Q pc lv st w z := h ▸ k
theorem v_se {st2 : List Value} (h : st = st2) (k : V K E A nL Q pc lv st2 w z) : V K E A nL Q pc lv st w z := h ▸ k
end RV
theorem wS_p {α : Type} (w : Nat → Nat → Nat → α) {t t2 : Nat} (a a2 : Nat) (f g : Nat → α) (h : t2 < t) : wS (wS w t a f) t2 a2 g = wS (wS w t2 a2 g) t a (id f) := wS_c w a a2 f g h
theorem wS_pp {α : Type} (w : Nat → Nat → Nat → α) {t : Nat} {a a2 : Nat} (f g : Nat → α) (h : a2 < a) : wS (wS w t a f) t a2 g = wS (wS w t a2 g) t a (id f) := wS_cc w f g h
def anyR (f : Row) : Nat → Int32
  | 0 => 0
  | k + 1 => if 1 ≤ k ∧ 0 < f k then 1 else anyR f k
theorem anyR_n {f : Row} {k : Nat} (h : ¬ 0 < f k) : anyR f (k + 1) = anyR f k := by simp only [anyR]; rw [if_neg (fun q => h q.2)]
theorem anyR_t {f : Row} {k n : Nat} (h1 : 1 ≤ k) (h : 0 < f k) (hn : k < n) : anyR f n = 1 := by
  induction n with
  | zero => omega
  | succ n ih =>
    simp only [anyR]
    by_cases q : k = n
    · subst q; rw [if_pos ⟨h1, h⟩]
    · rw [ih (by omega)]; grind
theorem anyR_01 (f : Row) (n : Nat) : anyR f n = 0 ∨ anyR f n = 1 := by
  induction n with
  | zero => exact Or.inl rfl
  | succ n ih => simp only [anyR]; grind
/-- the cars that are hot, as bits -/
def hotR (f : Row) : Nat → Int32
  | 0 => 0
  | 1 => 0
  | k + 2 => if 100 ≤ f (k + 1) then hotR f (k + 1) ||| 1 <<< (nI k &&& 31) else hotR f (k + 1)
theorem hotR_s {f : Row} {i : Int32} (h : 1 ≤ i) : hotR f (i.toNatClampNeg + 1) = if 100 ≤ f i.toNatClampNeg then hotR f i.toNatClampNeg ||| 1 <<< ((i - 1) &&& 31) else hotR f i.toNatClampNeg := by
  have h1 := cl_pos h
  have h2 := cl_pred h
  have h3 : nI (i.toNatClampNeg - 1) = i - 1 := by rw [← h2]; exact nI_cl (by grind)
  obtain ⟨d, hd⟩ : ∃ d, i.toNatClampNeg = d + 1 := ⟨i.toNatClampNeg - 1, by omega⟩
  rw [hd] at h3 ⊢
  simp only [hotR]
  rw [Nat.add_sub_cancel] at h3
  rw [h3]
theorem vlv_set {kind stuck keep p t c sn ra : Int32} (e1 : sn = sens kind) (e2 : ra = ratF kind) (h1 : ¬ -sn ≤ p - t) (h2 : ¬ stuck = 2) : vlv kind stuck keep p t c = (1, (if kind = 1 then (if 0 < p - 8 then p - 8 else 0) else p), t - (if -(p - t) < ra then -(p - t) else ra), if c + 2 * (if -(p - t) < ra then -(p - t) else ra) < 500 then c + 2 * (if -(p - t) < ra then -(p - t) else ra) else 500) := by
  simp only [vlv]
  rw [if_pos ⟨by rw [← e1]; exact Int32.not_le.mp h1, h2⟩, ← e2]
theorem vlv_go {kind stuck keep p t c sn : Int32} (e1 : sn = sens kind) (h1 : ¬ (p - t < -sn ∧ stuck ≠ 2)) (h2 : sn < p - t) : vlv kind stuck keep p t c = (1, p - (if (p - t) / 2 < 10 then (p - t) / 2 else 10), t + (if (p - t) / 2 < 10 then (p - t) / 2 else 10), if stuck ≠ 1 ∧ 100 * keep < c then (if 100 * keep < c - easF kind then c - easF kind else 100 * keep) else c) := by
  simp only [vlv]
  rw [if_neg (by rw [← e1]; exact h1), if_pos (by rw [← e1]; exact h2)]
theorem vlv_hold {kind stuck keep p t c sn : Int32} (e1 : sn = sens kind) (h1 : ¬ (p - t < -sn ∧ stuck ≠ 2)) (h2 : ¬ sn < p - t) : vlv kind stuck keep p t c = (0, p, t, c) := by
  simp only [vlv]
  rw [if_neg (by rw [← e1]; exact h1), if_neg (by rw [← e1]; exact h2)]
theorem cell_in {R : RK} {q t cy : Row} {k : Nat} (h : R.2.2.2.2.1 k = 0) : cellF R q t cy k = vlv (R.2.2.2.1 k) (R.2.2.2.2.2.2.2.2 k) (R.2.2.2.2.2.1 k) (q k - q k * R.2.2.2.2.2.2.1 k / 1000) (t k) (cy k) := if_pos h
theorem cell_out {R : RK} {q t cy : Row} {k : Nat} (h : ¬ R.2.2.2.2.1 k = 0) : cellF R q t cy k = (0, q k - q k * R.2.2.2.2.2.2.1 k / 1000, t k, cy k) := if_neg h
theorem mvR_s (m : Row) {k : Nat} (h : 1 ≤ k) : mvR m (k + 1) = if m k ≠ 0 then 1 else mvR m k := by simp only [mvR]; grind
theorem mvR_01 (m : Row) (k : Nat) : mvR m k = 0 ∨ mvR m k = 1 := by
  induction k with
  | zero => exact Or.inl rfl
  | succ k ih => simp only [mvR]; grind
theorem q_cellout {R : RK} {q t cy P T Y : Row} {mv : Int32} {k : Nat} (h : ¬ R.2.2.2.2.1 k = 0) (eP : P = cpR q (gP R q t cy) k) (eT : T = cpR t (gT R q t cy) k) (eY : Y = cpR cy (gC R q t cy) k) (em : mv = mvR (gM R q t cy) k) (gq : P k = q k) (gt : T k = t k) (gc : Y k = cy k) (hk : 1 ≤ k) :
    upd P k (P k - P k * R.2.2.2.2.2.2.1 k / 1000) = cpR q (gP R q t cy) (k + 1) ∧ T = cpR t (gT R q t cy) (k + 1) ∧ Y = cpR cy (gC R q t cy) (k + 1) ∧ mv = mvR (gM R q t cy) (k + 1) := by
  have hc := cell_out (q := q) (t := t) (cy := cy) h
  refine ⟨?_, ?_, ?_, ?_⟩
  · rw [← cpR_s _ _ hk, ← eP, gq]
    simp only [gP, hc]
  · rw [← cpR_s _ _ hk, ← eT]
    simp only [gT, hc]
    rw [← gt, upd_id]
  · rw [← cpR_s _ _ hk, ← eY]
    simp only [gC, hc]
    rw [← gc, upd_id]
  · rw [mvR_s _ hk, ← em]
    simp only [gM, hc]
    simp
theorem q_cellin {R : RK} {q t cy P T Y : Row} {mv m2 : Int32} {k : Nat} (h : R.2.2.2.2.1 k = 0) (eP : P = cpR q (gP R q t cy) k) (eT : T = cpR t (gT R q t cy) k) (eY : Y = cpR cy (gC R q t cy) k) (em : mv = mvR (gM R q t cy) k) (gq : P k = q k) (gt : T k = t k) (gc : Y k = cy k) (hk : 1 ≤ k)
    (hm : m2 = if (vlv (R.2.2.2.1 k) (R.2.2.2.2.2.2.2.2 k) (R.2.2.2.2.2.1 k) (upd P k (P k - P k * R.2.2.2.2.2.2.1 k / 1000) k) (T k) (Y k)).1 ≠ 0 then 1 else mv) :
    upd (upd P k (P k - P k * R.2.2.2.2.2.2.1 k / 1000)) k (vlv (R.2.2.2.1 k) (R.2.2.2.2.2.2.2.2 k) (R.2.2.2.2.2.1 k) (upd P k (P k - P k * R.2.2.2.2.2.2.1 k / 1000) k) (T k) (Y k)).2.1 = cpR q (gP R q t cy) (k + 1) ∧ upd T k (vlv (R.2.2.2.1 k) (R.2.2.2.2.2.2.2.2 k) (R.2.2.2.2.2.1 k) (upd P k (P k - P k * R.2.2.2.2.2.2.1 k / 1000) k) (T k) (Y k)).2.2.1 = cpR t (gT R q t cy) (k + 1) ∧ upd Y k (vlv (R.2.2.2.1 k) (R.2.2.2.2.2.2.2.2 k) (R.2.2.2.2.2.1 k) (upd P k (P k - P k * R.2.2.2.2.2.2.1 k / 1000) k) (T k) (Y k)).2.2.2 = cpR cy (gC R q t cy) (k + 1) ∧ m2 = mvR (gM R q t cy) (k + 1) := by
  have hc := cell_in (q := q) (t := t) (cy := cy) h
  rw [upd_s, gq, gt, gc] at hm ⊢
  refine ⟨?_, ?_, ?_, ?_⟩
  · rw [← cpR_s _ _ hk, ← eP, upd_u]
    simp only [gP, hc]
  · rw [← cpR_s _ _ hk, ← eT]
    simp only [gT, hc]
  · rw [← cpR_s _ _ hk, ← eY]
    simp only [gC, hc]
  · rw [mvR_s _ hk, ← em, hm]
    simp only [gM, hc]
theorem sw_0_6 {x : Int32} (h : ¬ (x.toInt < 0 ∨ 6 < x.toInt)) : x = 0 ∨ x = 1 ∨ x = 2 ∨ x = 3 ∨ x = 4 ∨ x = 5 ∨ x = 6 := by
  have h2 : x.toInt = 0 ∨ x.toInt = 1 ∨ x.toInt = 2 ∨ x.toInt = 3 ∨ x.toInt = 4 ∨ x.toInt = 5 ∨ x.toInt = 6 := by omega
  rcases h2 with h | h | h | h | h | h | h
  · exact Or.inl (Int32.toInt_inj.mp (h.trans (by decide)))
  · exact Or.inr (Or.inl (Int32.toInt_inj.mp (h.trans (by decide))))
  · exact Or.inr (Or.inr (Or.inl (Int32.toInt_inj.mp (h.trans (by decide)))))
  · exact Or.inr (Or.inr (Or.inr (Or.inl (Int32.toInt_inj.mp (h.trans (by decide))))))
  · exact Or.inr (Or.inr (Or.inr (Or.inr (Or.inl (Int32.toInt_inj.mp (h.trans (by decide)))))))
  · exact Or.inr (Or.inr (Or.inr (Or.inr (Or.inr (Or.inl (Int32.toInt_inj.mp (h.trans (by decide))))))))
  · exact Or.inr (Or.inr (Or.inr (Or.inr (Or.inr (Or.inr (Int32.toInt_inj.mp (h.trans (by decide))))))))
theorem sw_2_6 {x : Int32} (h : ¬ (x.toInt < 2 ∨ 6 < x.toInt)) : x = 2 ∨ x = 3 ∨ x = 4 ∨ x = 5 ∨ x = 6 := by
  have h2 : x.toInt = 2 ∨ x.toInt = 3 ∨ x.toInt = 4 ∨ x.toInt = 5 ∨ x.toInt = 6 := by omega
  rcases h2 with h | h | h | h | h
  · exact Or.inl (Int32.toInt_inj.mp (h.trans (by decide)))
  · exact Or.inr (Or.inl (Int32.toInt_inj.mp (h.trans (by decide))))
  · exact Or.inr (Or.inr (Or.inl (Int32.toInt_inj.mp (h.trans (by decide)))))
  · exact Or.inr (Or.inr (Or.inr (Or.inl (Int32.toInt_inj.mp (h.trans (by decide))))))
  · exact Or.inr (Or.inr (Or.inr (Or.inr (Int32.toInt_inj.mp (h.trans (by decide))))))
theorem sw_0_2 {x : Int32} (h : ¬ (x.toInt < 0 ∨ 2 < x.toInt)) : x = 0 ∨ x = 1 ∨ x = 2 := by
  have h2 : x.toInt = 0 ∨ x.toInt = 1 ∨ x.toInt = 2 := by omega
  rcases h2 with h | h | h
  · exact Or.inl (Int32.toInt_inj.mp (h.trans (by decide)))
  · exact Or.inr (Or.inl (Int32.toInt_inj.mp (h.trans (by decide))))
  · exact Or.inr (Or.inr (Int32.toInt_inj.mp (h.trans (by decide))))
theorem sw_0_1 {x : Int32} (h : ¬ (x.toInt < 0 ∨ 1 < x.toInt)) : x = 0 ∨ x = 1 := by
  have h2 : x.toInt = 0 ∨ x.toInt = 1 := by omega
  rcases h2 with h | h
  · exact Or.inl (Int32.toInt_inj.mp (h.trans (by decide)))
  · exact Or.inr (Int32.toInt_inj.mp (h.trans (by decide)))
theorem sw_0_5 {x : Int32} (h : ¬ (x.toInt < 0 ∨ 5 < x.toInt)) : x = 0 ∨ x = 1 ∨ x = 2 ∨ x = 3 ∨ x = 4 ∨ x = 5 := by
  have h2 : x.toInt = 0 ∨ x.toInt = 1 ∨ x.toInt = 2 ∨ x.toInt = 3 ∨ x.toInt = 4 ∨ x.toInt = 5 := by omega
  rcases h2 with h | h | h | h | h | h
  · exact Or.inl (Int32.toInt_inj.mp (h.trans (by decide)))
  · exact Or.inr (Or.inl (Int32.toInt_inj.mp (h.trans (by decide))))
  · exact Or.inr (Or.inr (Or.inl (Int32.toInt_inj.mp (h.trans (by decide)))))
  · exact Or.inr (Or.inr (Or.inr (Or.inl (Int32.toInt_inj.mp (h.trans (by decide))))))
  · exact Or.inr (Or.inr (Or.inr (Or.inr (Or.inl (Int32.toInt_inj.mp (h.trans (by decide)))))))
  · exact Or.inr (Or.inr (Or.inr (Or.inr (Or.inr (Int32.toInt_inj.mp (h.trans (by decide)))))))
theorem sw_0_4 {x : Int32} (h : ¬ (x.toInt < 0 ∨ 4 < x.toInt)) : x = 0 ∨ x = 1 ∨ x = 2 ∨ x = 3 ∨ x = 4 := by
  have h2 : x.toInt = 0 ∨ x.toInt = 1 ∨ x.toInt = 2 ∨ x.toInt = 3 ∨ x.toInt = 4 := by omega
  rcases h2 with h | h | h | h | h
  · exact Or.inl (Int32.toInt_inj.mp (h.trans (by decide)))
  · exact Or.inr (Or.inl (Int32.toInt_inj.mp (h.trans (by decide))))
  · exact Or.inr (Or.inr (Or.inl (Int32.toInt_inj.mp (h.trans (by decide)))))
  · exact Or.inr (Or.inr (Or.inr (Or.inl (Int32.toInt_inj.mp (h.trans (by decide))))))
  · exact Or.inr (Or.inr (Or.inr (Or.inr (Int32.toInt_inj.mp (h.trans (by decide))))))
theorem sw_0_25 {x : Int32} (h : ¬ (x.toInt < 0 ∨ 25 < x.toInt)) : x = 0 ∨ x = 1 ∨ x = 2 ∨ x = 3 ∨ x = 4 ∨ x = 5 ∨ x = 6 ∨ x = 7 ∨ x = 8 ∨ x = 9 ∨ x = 10 ∨ x = 11 ∨ x = 12 ∨ x = 13 ∨ x = 14 ∨ x = 15 ∨ x = 16 ∨ x = 17 ∨ x = 18 ∨ x = 19 ∨ x = 20 ∨ x = 21 ∨ x = 22 ∨ x = 23 ∨ x = 24 ∨ x = 25 := by
  have h2 : x.toInt = 0 ∨ x.toInt = 1 ∨ x.toInt = 2 ∨ x.toInt = 3 ∨ x.toInt = 4 ∨ x.toInt = 5 ∨ x.toInt = 6 ∨ x.toInt = 7 ∨ x.toInt = 8 ∨ x.toInt = 9 ∨ x.toInt = 10 ∨ x.toInt = 11 ∨ x.toInt = 12 ∨ x.toInt = 13 ∨ x.toInt = 14 ∨ x.toInt = 15 ∨ x.toInt = 16 ∨ x.toInt = 17 ∨ x.toInt = 18 ∨ x.toInt = 19 ∨ x.toInt = 20 ∨ x.toInt = 21 ∨ x.toInt = 22 ∨ x.toInt = 23 ∨ x.toInt = 24 ∨ x.toInt = 25 := by omega
  rcases h2 with h | h | h | h | h | h | h | h | h | h | h | h | h | h | h | h | h | h | h | h | h | h | h | h | h | h
  · exact Or.inl (Int32.toInt_inj.mp (h.trans (by decide)))
  · exact Or.inr (Or.inl (Int32.toInt_inj.mp (h.trans (by decide))))
  · exact Or.inr (Or.inr (Or.inl (Int32.toInt_inj.mp (h.trans (by decide)))))
  · exact Or.inr (Or.inr (Or.inr (Or.inl (Int32.toInt_inj.mp (h.trans (by decide))))))
  · exact Or.inr (Or.inr (Or.inr (Or.inr (Or.inl (Int32.toInt_inj.mp (h.trans (by decide)))))))
  · exact Or.inr (Or.inr (Or.inr (Or.inr (Or.inr (Or.inl (Int32.toInt_inj.mp (h.trans (by decide))))))))
  · exact Or.inr (Or.inr (Or.inr (Or.inr (Or.inr (Or.inr (Or.inl (Int32.toInt_inj.mp (h.trans (by decide)))))))))
  · exact Or.inr (Or.inr (Or.inr (Or.inr (Or.inr (Or.inr (Or.inr (Or.inl (Int32.toInt_inj.mp (h.trans (by decide))))))))))
  · exact Or.inr (Or.inr (Or.inr (Or.inr (Or.inr (Or.inr (Or.inr (Or.inr (Or.inl (Int32.toInt_inj.mp (h.trans (by decide)))))))))))
  · exact Or.inr (Or.inr (Or.inr (Or.inr (Or.inr (Or.inr (Or.inr (Or.inr (Or.inr (Or.inl (Int32.toInt_inj.mp (h.trans (by decide))))))))))))
  · exact Or.inr (Or.inr (Or.inr (Or.inr (Or.inr (Or.inr (Or.inr (Or.inr (Or.inr (Or.inr (Or.inl (Int32.toInt_inj.mp (h.trans (by decide)))))))))))))
  · exact Or.inr (Or.inr (Or.inr (Or.inr (Or.inr (Or.inr (Or.inr (Or.inr (Or.inr (Or.inr (Or.inr (Or.inl (Int32.toInt_inj.mp (h.trans (by decide))))))))))))))
  · exact Or.inr (Or.inr (Or.inr (Or.inr (Or.inr (Or.inr (Or.inr (Or.inr (Or.inr (Or.inr (Or.inr (Or.inr (Or.inl (Int32.toInt_inj.mp (h.trans (by decide)))))))))))))))
  · exact Or.inr (Or.inr (Or.inr (Or.inr (Or.inr (Or.inr (Or.inr (Or.inr (Or.inr (Or.inr (Or.inr (Or.inr (Or.inr (Or.inl (Int32.toInt_inj.mp (h.trans (by decide))))))))))))))))
  · exact Or.inr (Or.inr (Or.inr (Or.inr (Or.inr (Or.inr (Or.inr (Or.inr (Or.inr (Or.inr (Or.inr (Or.inr (Or.inr (Or.inr (Or.inl (Int32.toInt_inj.mp (h.trans (by decide)))))))))))))))))
  · exact Or.inr (Or.inr (Or.inr (Or.inr (Or.inr (Or.inr (Or.inr (Or.inr (Or.inr (Or.inr (Or.inr (Or.inr (Or.inr (Or.inr (Or.inr (Or.inl (Int32.toInt_inj.mp (h.trans (by decide))))))))))))))))))
  · exact Or.inr (Or.inr (Or.inr (Or.inr (Or.inr (Or.inr (Or.inr (Or.inr (Or.inr (Or.inr (Or.inr (Or.inr (Or.inr (Or.inr (Or.inr (Or.inr (Or.inl (Int32.toInt_inj.mp (h.trans (by decide)))))))))))))))))))
  · exact Or.inr (Or.inr (Or.inr (Or.inr (Or.inr (Or.inr (Or.inr (Or.inr (Or.inr (Or.inr (Or.inr (Or.inr (Or.inr (Or.inr (Or.inr (Or.inr (Or.inr (Or.inl (Int32.toInt_inj.mp (h.trans (by decide))))))))))))))))))))
  · exact Or.inr (Or.inr (Or.inr (Or.inr (Or.inr (Or.inr (Or.inr (Or.inr (Or.inr (Or.inr (Or.inr (Or.inr (Or.inr (Or.inr (Or.inr (Or.inr (Or.inr (Or.inr (Or.inl (Int32.toInt_inj.mp (h.trans (by decide)))))))))))))))))))))
  · exact Or.inr (Or.inr (Or.inr (Or.inr (Or.inr (Or.inr (Or.inr (Or.inr (Or.inr (Or.inr (Or.inr (Or.inr (Or.inr (Or.inr (Or.inr (Or.inr (Or.inr (Or.inr (Or.inr (Or.inl (Int32.toInt_inj.mp (h.trans (by decide))))))))))))))))))))))
  · exact Or.inr (Or.inr (Or.inr (Or.inr (Or.inr (Or.inr (Or.inr (Or.inr (Or.inr (Or.inr (Or.inr (Or.inr (Or.inr (Or.inr (Or.inr (Or.inr (Or.inr (Or.inr (Or.inr (Or.inr (Or.inl (Int32.toInt_inj.mp (h.trans (by decide)))))))))))))))))))))))
  · exact Or.inr (Or.inr (Or.inr (Or.inr (Or.inr (Or.inr (Or.inr (Or.inr (Or.inr (Or.inr (Or.inr (Or.inr (Or.inr (Or.inr (Or.inr (Or.inr (Or.inr (Or.inr (Or.inr (Or.inr (Or.inr (Or.inl (Int32.toInt_inj.mp (h.trans (by decide))))))))))))))))))))))))
  · exact Or.inr (Or.inr (Or.inr (Or.inr (Or.inr (Or.inr (Or.inr (Or.inr (Or.inr (Or.inr (Or.inr (Or.inr (Or.inr (Or.inr (Or.inr (Or.inr (Or.inr (Or.inr (Or.inr (Or.inr (Or.inr (Or.inr (Or.inl (Int32.toInt_inj.mp (h.trans (by decide)))))))))))))))))))))))))
  · exact Or.inr (Or.inr (Or.inr (Or.inr (Or.inr (Or.inr (Or.inr (Or.inr (Or.inr (Or.inr (Or.inr (Or.inr (Or.inr (Or.inr (Or.inr (Or.inr (Or.inr (Or.inr (Or.inr (Or.inr (Or.inr (Or.inr (Or.inr (Or.inl (Int32.toInt_inj.mp (h.trans (by decide))))))))))))))))))))))))))
  · exact Or.inr (Or.inr (Or.inr (Or.inr (Or.inr (Or.inr (Or.inr (Or.inr (Or.inr (Or.inr (Or.inr (Or.inr (Or.inr (Or.inr (Or.inr (Or.inr (Or.inr (Or.inr (Or.inr (Or.inr (Or.inr (Or.inr (Or.inr (Or.inr (Or.inl (Int32.toInt_inj.mp (h.trans (by decide)))))))))))))))))))))))))))
  · exact Or.inr (Or.inr (Or.inr (Or.inr (Or.inr (Or.inr (Or.inr (Or.inr (Or.inr (Or.inr (Or.inr (Or.inr (Or.inr (Or.inr (Or.inr (Or.inr (Or.inr (Or.inr (Or.inr (Or.inr (Or.inr (Or.inr (Or.inr (Or.inr (Or.inr (Int32.toInt_inj.mp (h.trans (by decide)))))))))))))))))))))))))))
theorem sw_0_3 {x : Int32} (h : ¬ (x.toInt < 0 ∨ 3 < x.toInt)) : x = 0 ∨ x = 1 ∨ x = 2 ∨ x = 3 := by
  have h2 : x.toInt = 0 ∨ x.toInt = 1 ∨ x.toInt = 2 ∨ x.toInt = 3 := by omega
  rcases h2 with h | h | h | h
  · exact Or.inl (Int32.toInt_inj.mp (h.trans (by decide)))
  · exact Or.inr (Or.inl (Int32.toInt_inj.mp (h.trans (by decide))))
  · exact Or.inr (Or.inr (Or.inl (Int32.toInt_inj.mp (h.trans (by decide)))))
  · exact Or.inr (Or.inr (Or.inr (Int32.toInt_inj.mp (h.trans (by decide)))))
