abbrev P_X12_spelt (w : Wi) (z : Wj) (a : Int32) (b : Int32) (c : Int32) (d : Int32) (e : Int32) : Int64 → WW → Prop := fun r_ u_ => r_ = (spF a b c d e) ∧ u_ = (w, z)
set_option maxHeartbeats 4000000 in
set_option maxRecDepth 100000 in
theorem c_X12_spelt (E : En) (hM : q_okM E) (w : Wi) (z : Wj) (a : Int32) (b : Int32) (c : Int32) (d : Int32) (e : Int32) : CtJ M_X12_spelt E [.int a, .int b, .int c, .int d, .int e] w z (P_X12_spelt w z a b c d e) := by
  have hE := hM.1
  refine ctJ_of (lv := [(0, .int a), (1, .int b), (2, .int c), (3, .int d), (4, .int e)]) hE m_X12_spelt (Nat.le_of_ble_eq_true rfl) rfl ?_
  intro K A C0
  have C : Cx K E A cX12_spelt 7 RX12 (some .long) { frames := 0, cells := 0, slots := 0, locals := 0 } := C0
  clear C0
  refine v_ldc2 C x_1501 dX12_spelt_0 ?_
  refine v_iload_n C 0 dX12_spelt_3 rfl ?_
  refine v_i2l C dX12_spelt_4 ?_
  refine v_ldc2 C x_1502 dX12_spelt_5 ?_
  refine v_lsub C dX12_spelt_8 ?_
  refine v_lmul C dX12_spelt_9 ?_
  refine v_iload_n C 1 dX12_spelt_10 rfl ?_
  refine v_i2l C dX12_spelt_11 ?_
  refine v_ladd C dX12_spelt_12 ?_
  refine v_ldc2 C x_1502 dX12_spelt_13 ?_
  refine v_lsub C dX12_spelt_16 ?_
  refine v_lstore (lv2 := [(5, .long (((27 * (((a : Int32).toInt64) - 96)) + ((b : Int32).toInt64)) - 96)), (0, .int a), (1, .int b), (2, .int c), (3, .int d), (4, .int e)]) C dX12_spelt_17 (by decide) rfl ?_
  have hL38 : ∀ (v1 : Int64), (v1 = (if 0 < c then 27 * (27 * (a.toInt64 - 96) + b.toInt64 - 96) + c.toInt64 - 96 else 27 * (a.toInt64 - 96) + b.toInt64 - 96)) → V K E A 7 (QJ K E A (P_X12_spelt w z a b c d e)) 38 [(5, .long v1), (0, .int a), (1, .int b), (2, .int c), (3, .int d), (4, .int e)] [] w z := by
    intro v1 hinv
    have e1 := hinv
    have hL57 : ∀ (v2 : Int64), (v2 = (if 0 < d then 27 * v1 + d.toInt64 - 96 else v1)) → V K E A 7 (QJ K E A (P_X12_spelt w z a b c d e)) 57 [(5, .long v2), (0, .int a), (1, .int b), (2, .int c), (3, .int d), (4, .int e)] [] w z := by
      intro v2 hinv
      have e2 := hinv
      refine v_iload C 5 dX12_spelt_57 rfl ?_
      refine v_if_le C 79 dX12_spelt_59 (by decide) (fun c_59 => ?_) (fun c_59 => ?_)
      · refine v_lload C 0 dX12_spelt_79 rfl ?_
        exact v_lret C dX12_spelt_81 ⟨(by clear C; simp only [spF]; rw [← e1, ← e2]; first | rw [if_pos (by grind)] | rw [if_neg (by grind)]), (congr (congrArg Prod.mk rfl) rfl)⟩
      · refine v_ldc2 C x_1501 dX12_spelt_62 ?_
        refine v_lload C 0 dX12_spelt_65 rfl ?_
        refine v_lmul C dX12_spelt_67 ?_
        refine v_iload C 5 dX12_spelt_68 rfl ?_
        refine v_i2l C dX12_spelt_70 ?_
        refine v_ladd C dX12_spelt_71 ?_
        refine v_ldc2 C x_1502 dX12_spelt_72 ?_
        refine v_lsub C dX12_spelt_75 ?_
        refine v_goto C 81 dX12_spelt_76 (by decide) ?_
        exact v_lret C dX12_spelt_81 ⟨(by clear C; simp only [spF]; rw [← e1, ← e2]; first | rw [if_pos (by grind)] | rw [if_neg (by grind)]), (congr (congrArg Prod.mk rfl) rfl)⟩
    refine v_iload_n C 4 dX12_spelt_38 rfl ?_
    refine v_if_le C 57 dX12_spelt_39 (by decide) (fun c_39 => ?_) (fun c_39 => ?_)
    · exact hL57 v1 (by clear C hL57; first | rw [if_pos (by grind)] | rw [if_neg (by grind)])
    · refine v_ldc2 C x_1501 dX12_spelt_42 ?_
      refine v_lload C 0 dX12_spelt_45 rfl ?_
      refine v_lmul C dX12_spelt_47 ?_
      refine v_iload_n C 4 dX12_spelt_48 rfl ?_
      refine v_i2l C dX12_spelt_49 ?_
      refine v_ladd C dX12_spelt_50 ?_
      refine v_ldc2 C x_1502 dX12_spelt_51 ?_
      refine v_lsub C dX12_spelt_54 ?_
      refine v_lstore (lv2 := [(5, .long (((27 * v1) + ((d : Int32).toInt64)) - 96)), (0, .int a), (1, .int b), (2, .int c), (3, .int d), (4, .int e)]) C dX12_spelt_55 (by decide) rfl ?_
      exact hL57 (((27 * v1) + ((d : Int32).toInt64)) - 96) (by clear C hL57; first | rw [if_pos (by grind)] | rw [if_neg (by grind)])
  refine v_iload_n C 3 dX12_spelt_19 rfl ?_
  refine v_if_le C 38 dX12_spelt_20 (by decide) (fun c_20 => ?_) (fun c_20 => ?_)
  · exact hL38 (((27 * (((a : Int32).toInt64) - 96)) + ((b : Int32).toInt64)) - 96) (by clear C hL38; first | rw [if_pos (by grind)] | rw [if_neg (by grind)])
  · refine v_ldc2 C x_1501 dX12_spelt_23 ?_
    refine v_lload C 0 dX12_spelt_26 rfl ?_
    refine v_lmul C dX12_spelt_28 ?_
    refine v_iload_n C 3 dX12_spelt_29 rfl ?_
    refine v_i2l C dX12_spelt_30 ?_
    refine v_ladd C dX12_spelt_31 ?_
    refine v_ldc2 C x_1502 dX12_spelt_32 ?_
    refine v_lsub C dX12_spelt_35 ?_
    refine v_lstore (lv2 := [(5, .long (((27 * (((27 * (((a : Int32).toInt64) - 96)) + ((b : Int32).toInt64)) - 96)) + ((c : Int32).toInt64)) - 96)), (0, .int a), (1, .int b), (2, .int c), (3, .int d), (4, .int e)]) C dX12_spelt_36 (by decide) rfl ?_
    exact hL38 (((27 * (((27 * (((a : Int32).toInt64) - 96)) + ((b : Int32).toInt64)) - 96)) + ((c : Int32).toInt64)) - 96) (by clear C hL38; first | rw [if_pos (by grind)] | rw [if_neg (by grind)])
