def quG (s : GS) : Int32 := kyG s (spF 113 117 105 99 107)
def slG (s : GS) : Int32 := kyG s (spF 115 108 111 119 0)
def olG (s : GS) : Int32 := kyG s (spF 111 108 100 0 0)
def ocG (P : TP) (c : Int32) : Nat → Int32 → GX → Row → Int32 × GX × Row
  | 0, _, x, T => (0, x, T)
  | n + 1, had, x, T => if ¬ x.1.2.2.1 = 2 then (1, x, T) else if opG x.1 = (-1) then (0, bdG 1 x, T) else if (had >>> ((opG x.1 / 32) &&& 31)) &&& 1 = 1 then (0, bdG 3 x, T) else if (roG P (opG x.1) c (gtG P x) T).1 = 0 then (0, (roG P (opG x.1) c (gtG P x) T).2) else ocG P c n (had ||| 1 <<< ((opG x.1 / 32) &&& 31)) (roG P (opG x.1) c (gtG P x) T).2.1 (roG P (opG x.1) c (gtG P x) T).2.2
def nwT (T : Row) (c w : Int32) : Row := upd (upd (upd (upd (upd (upd T (32 + c).toNatClampNeg w) (64 + c).toNatClampNeg 0) (96 + c).toNatClampNeg 0) (128 + c).toNatClampNeg 0) (160 + c).toNatClampNeg 100) (192 + c).toNatClampNeg 0
def kiG (s : GS) : Int32 := if quG s ≠ 0 then 1 else if slG s ≠ 0 then 2 else 0
def rcG (P : TP) (x : GX) (T : Row) (rc : Int32) : Int32 × GX × Row × Int32 :=
  if rc = 16 then (0, bdG 4 x, T, rc)
  else if quG (gtG P x).1 = 0 ∧ slG (gtG P x).1 = 0 ∧ olG (gtG P x).1 = 0 then (0, bdG 1 (gtG P x), T, rc)
  else if (rnG P 10 99 (gtG P (gtG P x))).1 = 0 then (0, (rnG P 10 99 (gtG P (gtG P x))).2, upd T (0 + (16 + rc)).toNatClampNeg (kiG (gtG P x).1), rc)
  else
    let o := ocG P (16 + rc) 6 0 (rnG P 10 99 (gtG P (gtG P x))).2 (nwT (upd T (0 + (16 + rc)).toNatClampNeg (kiG (gtG P x).1)) (16 + rc) (rnG P 10 99 (gtG P (gtG P x))).2.2.2.2)
    if o.1 = 0 then (0, o.2.1, o.2.2, rc) else (1, o.2.1, o.2.2, rc + 1)
def pcN (h : Nat) : Nat := h % 2 + h / 2 % 2 + h / 4 % 2 + h / 8 % 2 + h / 16 % 2
def hadI (had : Int32) (m : Nat) : Prop := ∃ h : Nat, h < 32 ∧ had = nI (4 * h) ∧ pcN h + m = 6
theorem had_d : ∀ h : Nat, h < 32 → ∀ r ∈ ([64, 96, 128, 160, 192] : List Int32), ¬ (nI (4 * h) >>> ((r / 32) &&& 31)) &&& 1 = 1 → ∃ h2 : Nat, h2 < 32 ∧ nI (4 * h) ||| 1 <<< ((r / 32) &&& 31) = nI (4 * h2) ∧ pcN h2 = pcN h + 1 := by decide +kernel
theorem hadI_1 {had : Int32} {m : Nat} (h : hadI had m) : 1 ≤ m := by
  obtain ⟨k, hk, _, e⟩ := h
  simp only [pcN] at e
  omega
theorem hadI_s {had r : Int32} {m : Nat} (h : hadI had m) (hr : r ∈ ([64, 96, 128, 160, 192] : List Int32)) (hb : ¬ (had >>> ((r / 32) &&& 31)) &&& 1 = 1) : hadI (had ||| 1 <<< ((r / 32) &&& 31)) (m - 1) := by
  have h1 := hadI_1 h
  obtain ⟨k, hk, e, e2⟩ := h
  subst e
  obtain ⟨k2, a, b, c⟩ := had_d k hk r hr hb
  exact ⟨k2, a, b, by omega⟩
theorem opG_in (s : GS) : opG s = (-1) ∨ opG s ∈ ([64, 96, 128, 160, 192] : List Int32) := by
  simp only [opG]
  repeat' split
  all_goals first | exact Or.inl rfl | exact Or.inr (by decide)
theorem op_b {r : Int32} (h : r ∈ ([64, 96, 128, 160, 192] : List Int32)) : 0 ≤ r ∧ r ≤ 192 := by
  simp only [List.mem_cons, List.not_mem_nil, or_false] at h
  rcases h with rfl | rfl | rfl | rfl | rfl <;> decide
