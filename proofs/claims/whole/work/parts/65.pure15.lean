/-! the texts of trains and handles -/
abbrev wL (i : Nat) : List Int32 := litS.getD i []
theorem rdT_eta (P : TP) (a b c d e f : Int32) : ((rdT P (a, b, c, d, e, f)).1, (rdT P (a, b, c, d, e, f)).2.1, (rdT P (a, b, c, d, e, f)).2.2.1, (rdT P (a, b, c, d, e, f)).2.2.2.1, e, f) = rdT P (a, b, c, d, e, f) := by
  simp only [rdT]; split
  · rfl
  · split <;> rfl
/-- size, kind, weight, out, keep, leak, hose, stuck -/
abbrev DT : Type := Int32 × Row × Row × Row × Row × Row × Row × Row
def addD (D : DT) (k wt : Int32) : DT := (D.1 + 1, upd D.2.1 (D.1 + 1).toNatClampNeg k, upd D.2.2.1 (D.1 + 1).toNatClampNeg wt, upd D.2.2.2.1 (D.1 + 1).toNatClampNeg 0, upd D.2.2.2.2.1 (D.1 + 1).toNatClampNeg 0, upd D.2.2.2.2.2.1 (D.1 + 1).toNatClampNeg 0, upd D.2.2.2.2.2.2.1 (D.1 + 1).toNatClampNeg 100, upd D.2.2.2.2.2.2.2 (D.1 + 1).toNatClampNeg 0)
def setD (D : DT) (wh x : Int32) : DT := (D.1, D.2.1, D.2.2.1, (if (1 ≤ D.1 ∧ D.1 ≤ D.1) ∧ wh = 2 then upd D.2.2.2.1 D.1.toNatClampNeg x else D.2.2.2.1), (if (1 ≤ D.1 ∧ D.1 ≤ D.1) ∧ wh = 3 then upd D.2.2.2.2.1 D.1.toNatClampNeg x else D.2.2.2.2.1), (if (1 ≤ D.1 ∧ D.1 ≤ D.1) ∧ wh = 4 then upd D.2.2.2.2.2.1 D.1.toNatClampNeg x else D.2.2.2.2.2.1), (if (1 ≤ D.1 ∧ D.1 ≤ D.1) ∧ wh = 5 then upd D.2.2.2.2.2.2.1 D.1.toNatClampNeg x else D.2.2.2.2.2.2.1), (if (1 ≤ D.1 ∧ D.1 ≤ D.1) ∧ wh = 6 then upd D.2.2.2.2.2.2.2 D.1.toNatClampNeg x else D.2.2.2.2.2.2.2))
def kdT (P : TP) (s : TS) : Int32 := if wdT P s (wL 3) ≠ 0 then 0 else if wdT P s (wL 4) ≠ 0 then 1 else if wdT P s (wL 5) ≠ 0 then 2 else (-1)
def opT (P : TP) (s : TS) : Int32 := if wdT P s (wL 6) ≠ 0 then 2 else if wdT P s (wL 7) ≠ 0 then 3 else if wdT P s (wL 8) ≠ 0 then 4 else if wdT P s (wL 9) ≠ 0 then 5 else if wdT P s (wL 10) ≠ 0 then 6 else (-1)
def acT (P : TP) (s : TS) : Int32 := if wdT P s (wL 14) ≠ 0 then 0 else if wdT P s (wL 15) ≠ 0 then 1 else if wdT P s (wL 16) ≠ 0 then 2 else if wdT P s (wL 17) ≠ 0 then 3 else (-1)
def moF (x : Int32) : Int32 := if x = 3 then 3 else if x = 4 then 99 else 100
def tsV (P : TP) (s : TS) : Int32 := if wdT P s (wL 11) ≠ 0 then 1 else if wdT P s (wL 12) ≠ 0 then 2 else (-1)
def tsT (P : TP) (s : TS) : Int32 × TS := if tsV P s = (-1) then ((-1), rfT 1 s) else (tsV P s, rdT P s)
def toT (P : TP) (b l m : Int32) (s : TS) : Int32 × TS := if ¬ b = (-1) then ((-1), rfT 3 s) else tnT P l m (rdT P s)
def rcT (P : TP) (s : TS) (D : DT) : Int32 × TS × DT := if ¬ D.1 < 16 then (0, rfT 4 s, D) else if kdT P (rdT P s) = (-1) then (0, rfT 1 (rdT P s), D) else if (tnT P 10 99 (rdT P (rdT P s))).1 = (-1) then (0, (tnT P 10 99 (rdT P (rdT P s))).2, D) else (1, (tnT P 10 99 (rdT P (rdT P s))).2, addD D (kdT P (rdT P s)) (tnT P 10 99 (rdT P (rdT P s))).1)
def roV (P : TP) (x : Int32) (s : TS) : Int32 × TS := if x = 2 then (1, s) else if x = 6 then tsT P s else tnT P 0 (moF x) s
def roT (P : TP) : Nat → Int32 → TS → DT → Int32 × TS × DT
  | 0, _, s, D => (0, rfT 3 s, D)
  | n + 1, told, s, D => if opT P s = (-1) then (1, s, D) else if (told >>> (opT P s &&& 31)) &&& 1 = 1 then (0, rfT 3 s, D) else if (roV P (opT P s) (rdT P s)).1 = (-1) then (0, (roV P (opT P s) (rdT P s)).2, D) else roT P n (told ||| 1 <<< (opT P s &&& 31)) (roV P (opT P s) (rdT P s)).2 (setD D (opT P s) (roV P (opT P s) (rdT P s)).1)
def rlT (P : TP) (s : TS) (ft fd : Int32) (D : DT) : Int32 × TS × Int32 × Int32 × DT :=
  if wdT P s (wL 0) ≠ 0 then (if (toT P ft 300 900 s).1 = (-1) then 0 else 1, (toT P ft 300 900 s).2, (toT P ft 300 900 s).1, fd, D)
  else if wdT P s (wL 1) ≠ 0 then (if (toT P fd 1 99 s).1 = (-1) then 0 else 1, (toT P fd 1 99 s).2, ft, (toT P fd 1 99 s).1, D)
  else if wdT P s (wL 2) ≠ 0 then (if (rcT P s D).1 = 0 then (0, (rcT P s D).2.1, ft, fd, (rcT P s D).2.2) else (if (roT P 6 0 (rcT P s D).2.1 (rcT P s D).2.2).1 = 0 then 0 else 1, (roT P 6 0 (rcT P s D).2.1 (rcT P s D).2.2).2.1, ft, fd, (roT P 6 0 (rcT P s D).2.1 (rcT P s D).2.2).2.2))
  else (0, rfT 1 s, ft, fd, D)
theorem okT_ts {P : TP} {s : TS} (h : okT P s) : okT P (tsT P s).2 := by
  simp only [tsT]; split
  · exact h
  · exact okT_rd h
theorem okT_to {P : TP} {s : TS} {b l m : Int32} (h : okT P s) : okT P (toT P b l m s).2 := by
  simp only [toT]; split
  · exact h
  · exact okT_tn (okT_rd h)
theorem okT_rv {P : TP} {s : TS} {x : Int32} (h : okT P s) : okT P (roV P x s).2 := by
  simp only [roV]; split
  · exact h
  · split
    · exact okT_ts h
    · exact okT_tn h
theorem rcT_ok {P : TP} {s : TS} {D : DT} (h : okT P s) (h1 : 0 ≤ D.1) (h2 : D.1 ≤ 16) : okT P (rcT P s D).2.1 ∧ 0 ≤ (rcT P s D).2.2.1 ∧ (rcT P s D).2.2.1 ≤ 16 := by
  simp only [rcT]; split
  · exact ⟨h, h1, h2⟩
  · split
    · exact ⟨okT_rd h, h1, h2⟩
    · split
      · exact ⟨okT_tn (okT_rd (okT_rd h)), h1, h2⟩
      · refine ⟨okT_tn (okT_rd (okT_rd h)), ?_, ?_⟩
        · show 0 ≤ D.1 + 1; grind
        · show D.1 + 1 ≤ 16; grind
theorem roT_ok {P : TP} : ∀ (n : Nat) {told : Int32} {s : TS} {D : DT}, okT P s → okT P (roT P n told s D).2.1 ∧ (roT P n told s D).2.2.1 = D.1 := by
  intro n
  induction n with
  | zero => intro told s D h; exact ⟨h, rfl⟩
  | succ n ih =>
    intro told s D h
    simp only [roT]; split
    · exact ⟨h, rfl⟩
    · split
      · exact ⟨h, rfl⟩
      · split
        · exact ⟨okT_rv (okT_rd h), rfl⟩
        · exact ih (okT_rv (okT_rd h))
theorem roT_kw (P : TP) : ∀ (n : Nat) (told : Int32) (s : TS) (D : DT), (roT P n told s D).2.2.2.1 = D.2.1 ∧ (roT P n told s D).2.2.2.2.1 = D.2.2.1 := by
  intro n
  induction n with
  | zero => intro told s D; exact ⟨rfl, rfl⟩
  | succ n ih =>
    intro told s D
    simp only [roT]; split
    · exact ⟨rfl, rfl⟩
    · split
      · exact ⟨rfl, rfl⟩
      · split
        · exact ⟨rfl, rfl⟩
        · exact ih _ _ _
theorem rlT_ok {P : TP} {s : TS} {ft fd : Int32} {D : DT} (h : okT P s) (h1 : 0 ≤ D.1) (h2 : D.1 ≤ 16) : okT P (rlT P s ft fd D).2.1 ∧ 0 ≤ (rlT P s ft fd D).2.2.2.2.1 ∧ (rlT P s ft fd D).2.2.2.2.1 ≤ 16 := by
  simp only [rlT]; split
  · exact ⟨okT_to h, h1, h2⟩
  · split
    · exact ⟨okT_to h, h1, h2⟩
    · split
      · have a := rcT_ok (D := D) h h1 h2
        split
        · exact a
        · have b := roT_ok 6 (told := 0) (D := (rcT P s D).2.2) a.1
          refine ⟨b.1, ?_, ?_⟩
          · show 0 ≤ (roT P 6 0 (rcT P s D).2.1 (rcT P s D).2.2).2.2.1; rw [b.2]; exact a.2.1
          · show (roT P 6 0 (rcT P s D).2.1 (rcT P s D).2.2).2.2.1 ≤ 16; rw [b.2]; exact a.2.2
      · exact ⟨h, h1, h2⟩
abbrev LTS : Type := TS × Int32 × Int32 × DT
def ltR (P : TP) : Nat → Int32 → LTS → Int32 × LTS
  | 0, n, x => (n, x)
  | m + 1, n, x => if x.1.2.2.1 = 0 then (n, x) else if (rlT P x.1 x.2.1 x.2.2.1 x.2.2.2).1 = 0 then ((-1), (rlT P x.1 x.2.1 x.2.2.1 x.2.2.2).2) else if (tmT P (rlT P x.1 x.2.1 x.2.2.1 x.2.2.2).2.1).1 = 0 then ((-1), (tmT P (rlT P x.1 x.2.1 x.2.2.1 x.2.2.2).2.1).2, (rlT P x.1 x.2.1 x.2.2.1 x.2.2.2).2.2) else ltR P m (n + 1) ((tmT P (rlT P x.1 x.2.1 x.2.2.1 x.2.2.2).2.1).2, (rlT P x.1 x.2.1 x.2.2.1 x.2.2.2).2.2)
/-- the end of a train's text: answer, tokens, told full and feed, draft, its full and feed -/
def trE (P : TP) (q : Int32 × LTS) : Int32 × LTS × Int32 × Int32 := if q.1 = (-1) then (q.1, q.2, 700, 40) else if P.2.2 < P.2.1 ∨ q.2.2.2.2.1 = 0 then ((-1), (rfT 1 q.2.1, q.2.2), 700, 40) else (q.1, q.2, (if q.2.2.1 = (-1) then 700 else q.2.2.1), (if q.2.2.2.1 = (-1) then 40 else q.2.2.2.1))
/-! handles -/
def alF (L : LV) : Int32 := if 1 ≤ L.1 ∧ L.1 ≤ 20 then L.2.2.2.2 (L.1 - 1).toNatClampNeg else 0
def addL (L : LV) (a m t : Int32) : LV := (L.1 + 1, L.2.1, upd L.2.2.1 L.1.toNatClampNeg a, upd L.2.2.2.1 L.1.toNatClampNeg m, upd L.2.2.2.2 L.1.toNatClampNeg (alF L + t))
def amT (P : TP) (a : Int32) (s : TS) : Int32 × TS := if a = 2 then tnT P 1 99 s else (0, s)
def stT (P : TP) (s : TS) (L : LV) : Int32 × TS × LV := if acT P s = (-1) then (0, rfT 1 s, L) else if ¬ L.1 < 20 then (0, rfT 4 s, L) else if (amT P (acT P s) (rdT P s)).1 = (-1) then (0, (amT P (acT P s) (rdT P s)).2, L) else if (tnT P 1 99 (amT P (acT P s) (rdT P s)).2).1 = (-1) then (0, (tnT P 1 99 (amT P (acT P s) (rdT P s)).2).2, L) else (1, (tnT P 1 99 (amT P (acT P s) (rdT P s)).2).2, addL L (acT P s) (amT P (acT P s) (rdT P s)).1 (tnT P 1 99 (amT P (acT P s) (rdT P s)).2).1)
theorem okT_am {P : TP} {s : TS} {x : Int32} (h : okT P s) : okT P (amT P x s).2 := by
  simp only [amT]; split
  · exact okT_tn h
  · exact h
theorem stT_ok {P : TP} {s : TS} {L : LV} (h : okT P s) (h1 : 0 ≤ L.1) (h2 : L.1 ≤ 20) : okT P (stT P s L).2.1 ∧ 0 ≤ (stT P s L).2.2.1 ∧ (stT P s L).2.2.1 ≤ 20 := by
  simp only [stT]; split
  · exact ⟨h, h1, h2⟩
  · split
    · exact ⟨h, h1, h2⟩
    · split
      · exact ⟨okT_am (okT_rd h), h1, h2⟩
      · split
        · exact ⟨okT_tn (okT_am (okT_rd h)), h1, h2⟩
        · refine ⟨okT_tn (okT_am (okT_rd h)), ?_, ?_⟩
          · show 0 ≤ L.1 + 1; grind
          · show L.1 + 1 ≤ 20; grind
def hsR (P : TP) : Nat → TS → LV → Int32 × TS × LV
  | 0, s, L => (L.1, s, L)
  | m + 1, s, L => if s.2.2.1 = 0 then (L.1, s, L) else if (stT P s L).1 = 0 then ((-1), (stT P s L).2) else if (tmT P (stT P s L).2.1).1 = 0 then ((-1), (tmT P (stT P s L).2.1).2, (stT P s L).2.2) else hsR P m (tmT P (stT P s L).2.1).2 (stT P s L).2.2
/-- ahead of the steps: 0 a fault -/
def hbT (P : TP) (s : TS) : Int32 × TS × Int32 := if wdT P s (wL 13) ≠ 0 then ((tmT P (rdT P s)).1, (tmT P (rdT P s)).2, (if (tmT P (rdT P s)).1 = 0 then 0 else 1)) else (1, s, 0)
def hrE (P : TP) (q : Int32 × TS × LV) : Int32 × TS × LV := if q.1 = (-1) then q else if P.2.2 < P.2.1 then ((-1), rfT 1 q.2.1, q.2.2) else q
def hrT (P : TP) (s : TS) (a m t : Row) : Int32 × TS × LV := if (hbT P s).1 = 0 then ((-1), (hbT P s).2.1, (0, 0, a, m, t)) else hrE P (hsR P 21 (hbT P s).2.1 (0, (hbT P s).2.2, a, m, t))
