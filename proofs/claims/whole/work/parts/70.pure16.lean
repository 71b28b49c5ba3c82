theorem stT_bo (P : TP) (s : TS) (L : LV) : (stT P s L).2.2.2.1 = L.2.1 := by
  simp only [stT]; split
  · rfl
  · split
    · rfl
    · split
      · rfl
      · split <;> rfl
theorem hrE_neg (P : TP) (s : TS) (L : LV) : hrE P ((-1), s, L) = ((-1), s, L) := if_pos rfl
theorem lv_eta (x : Int32 × TS × LV) {b : Int32} (h : x.2.2.2.1 = b) : (x.1, (x.2.1.1, x.2.1.2.1, x.2.1.2.2.1, x.2.1.2.2.2.1, x.2.1.2.2.2.2.1, x.2.1.2.2.2.2.2), (x.2.2.1, b, x.2.2.2.2.1, x.2.2.2.2.2.1, x.2.2.2.2.2.2)) = x := by subst h; rfl
