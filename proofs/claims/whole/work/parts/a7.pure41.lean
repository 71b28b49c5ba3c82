theorem sh7_i (f : Row) {r c : Int32} (h0 : 0 ≤ r) (h1 : r < 224) (hr : r.toNatClampNeg % 32 = 0) (hc0 : 0 ≤ c) (hc : c < 16) : upd (sh7 f (r.toNatClampNeg + c.toNatClampNeg)) (r + c).toNatClampNeg (sh7 f (r.toNatClampNeg + c.toNatClampNeg) (r + 16 + c).toNatClampNeg) = sh7 f (r.toNatClampNeg + (c + 1).toNatClampNeg) := by
  have e1 := cl_add (x := r) (y := c) h0 hc0 (by grind) (by grind)
  have e2 := cl_add (x := r) (y := 16) h0 (by decide) (by grind) (by decide)
  have e3 := cl_add (x := r + 16) (y := c) (by grind) hc0 (by grind) (by grind)
  have e4 : (16 : Int32).toNatClampNeg = 16 := rfl
  have e5 := cl_succ hc0 (by grind)
  have e6 := (cl_lt hc0 (show (0 : Int32) ≤ 16 by decide)).mpr hc
  rw [e1, e3, e2, e5, e4]
  exact sh7_s f hr (by omega)
theorem sh7_o (f : Row) {r : Int32} (h0 : 0 ≤ r) (h1 : r < 224) (hr : r.toNatClampNeg % 32 = 0) : (r + 32).toNatClampNeg % 32 = 0 ∧ (r + 32).toNatClampNeg ≤ 224 ∧ sh7 f (r.toNatClampNeg + 16) = sh7 f (r + 32).toNatClampNeg := by
  have e1 := cl_add (x := r) (y := 32) h0 (by decide) (by grind) (by decide)
  have e2 : (32 : Int32).toNatClampNeg = 32 := rfl
  have e3 := (cl_lt h0 (show (0 : Int32) ≤ 224 by decide)).mpr h1
  have e4 : (224 : Int32).toNatClampNeg = 224 := rfl
  rw [e1, e2]
  exact ⟨by omega, by omega, sh7_r f hr⟩
theorem le224 {r : Int32} (h0 : 0 ≤ r) (h : r.toNatClampNeg ≤ 224) : r ≤ 224 := (cl_le h0 (show (0 : Int32) ≤ 224 by decide)).mp h
theorem le192 {r : Int32} (h0 : 0 ≤ r) (h1 : r < 224) (hr : r.toNatClampNeg % 32 = 0) : r ≤ 192 := by
  have e3 := (cl_lt h0 (show (0 : Int32) ≤ 224 by decide)).mpr h1
  have e4 : (224 : Int32).toNatClampNeg = 224 := rfl
  exact (cl_le h0 (show (0 : Int32) ≤ 192 by decide)).mp (show r.toNatClampNeg ≤ 192 by omega)
