/-! the reference: bytes, words -/
def b8 (n : Int32) (k : Int32) : Int32 := (n.toUInt32 >>> (k.toUInt32 &&& Int32.toUInt32 31)).toInt32 &&& 255
def put4G (f : Row) (s n : Int32) : Row := upd (upd (upd (upd f s.toNatClampNeg (b8 n 24)) (s + 1).toNatClampNeg (b8 n 16)) (s + 1 + 1).toNatClampNeg (b8 n 8)) (s + 1 + 1 + 1).toNatClampNeg (b8 n 0)
def spF (a b c d e : Int32) : Int64 :=
  let v := 27 * (a.toInt64 - 96) + b.toInt64 - 96
  let v1 := if 0 < c then 27 * v + c.toInt64 - 96 else v
  let v2 := if 0 < d then 27 * v1 + d.toInt64 - 96 else v1
  if 0 < e then 27 * v2 + e.toInt64 - 96 else v2
def L7 (t : Row) (i : Int32) : Row := if i = 0 then upd (upd t 32 50) 160 100 else t
theorem L7_1 (t : Row) : L7 t 1 = t := if_neg (by decide)
def btR : Nat → Int32 → Int32 → Int32
  | 0, n, _ => n
  | f + 1, n, s => if s = 0 then n else btR f (n + 1) (s &&& (s - 1))
def sumR (f : Row) : Nat → Int32
  | 0 => 0
  | k + 1 => sumR f k + f k
theorem come_in {s : Int32} (h1 : 0 ≤ s) (h3 : s + 4 ≤ 740) (h4 : s ≤ 740) : vp_in s 740 ∧ vp_in (s + 1) 740 ∧ vp_in (s + 1 + 1) 740 ∧ vp_in (s + 1 + 1 + 1) 740 := by
  have h2 : s ≤ 736 := by
    rw [le_toInt] at h1 h3 h4 ⊢
    have k0 : (0 : Int32).toInt = 0 := rfl
    have k1 : (740 : Int32).toInt = 740 := rfl
    have k2 : (4 : Int32).toInt = 4 := rfl
    have k3 : (736 : Int32).toInt = 736 := rfl
    rw [Int32.toInt_add, k2, Int.bmod_eq_of_le (by omega) (by omega)] at h3
    omega
  have e0 : s.toNatClampNeg ≤ 736 := (cl_le h1 (show (0 : Int32) ≤ 736 by decide)).mpr h2
  have e1 := cl_succ h1 (show s < 2147483647 by grind)
  have a1 : 0 ≤ s + 1 := by grind
  have e2 := cl_succ a1 (show s + 1 < 2147483647 by grind)
  have a2 : 0 ≤ s + 1 + 1 := by grind
  have e3 := cl_succ a2 (show s + 1 + 1 < 2147483647 by grind)
  have a3 : 0 ≤ s + 1 + 1 + 1 := by grind
  exact ⟨vp_x h1 (by omega) (by omega), vp_x a1 (by omega) (by omega), vp_x a2 (by omega) (by omega), vp_x a3 (by omega) (by omega)⟩
