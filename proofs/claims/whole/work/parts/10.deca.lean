def decs (b : ByteArray) (l : List (Nat × Instr × Nat)) : Prop := ∀ q ∈ l, decode b q.1 = .ok (q.2.1, q.2.2)
theorem decs_at {b : ByteArray} {l : List (Nat × Instr × Nat)} (h : decs b l) (i : Nat) {pc : Nat} {x : Instr} {n : Nat} (hi : l[i]? = some (pc, x, n)) : decode b pc = .ok (x, n) := h (pc, x, n) (List.mem_of_getElem? hi)
theorem DX7_hasRoom_0 : decs cX7_hasRoom [(0, .aload_n 0, 1), (1, .getfield 15, 3), (4, .iload_n 1, 1), (5, .iadd, 1), (6, .sipush 740, 3), (9, .if_icmp .gt 7, 3), (12, .iconst 1, 1), (13, .goto 4, 3), (16, .iconst 0, 1), (17, .ireturn, 1)] := by unfold decs; decide +kernel
theorem dX7_hasRoom_0 : decode cX7_hasRoom 0 = .ok (.aload_n 0, 1) := decs_at DX7_hasRoom_0 0 rfl
theorem dX7_hasRoom_1 : decode cX7_hasRoom 1 = .ok (.getfield 15, 3) := decs_at DX7_hasRoom_0 1 rfl
theorem dX7_hasRoom_4 : decode cX7_hasRoom 4 = .ok (.iload_n 1, 1) := decs_at DX7_hasRoom_0 2 rfl
theorem dX7_hasRoom_5 : decode cX7_hasRoom 5 = .ok (.iadd, 1) := decs_at DX7_hasRoom_0 3 rfl
theorem dX7_hasRoom_6 : decode cX7_hasRoom 6 = .ok (.sipush 740, 3) := decs_at DX7_hasRoom_0 4 rfl
theorem dX7_hasRoom_9 : decode cX7_hasRoom 9 = .ok (.if_icmp .gt 7, 3) := decs_at DX7_hasRoom_0 5 rfl
theorem dX7_hasRoom_12 : decode cX7_hasRoom 12 = .ok (.iconst 1, 1) := decs_at DX7_hasRoom_0 6 rfl
theorem dX7_hasRoom_13 : decode cX7_hasRoom 13 = .ok (.goto 4, 3) := decs_at DX7_hasRoom_0 7 rfl
theorem dX7_hasRoom_16 : decode cX7_hasRoom 16 = .ok (.iconst 0, 1) := decs_at DX7_hasRoom_0 8 rfl
theorem dX7_hasRoom_17 : decode cX7_hasRoom 17 = .ok (.ireturn, 1) := decs_at DX7_hasRoom_0 9 rfl
theorem DX7_putNumber_0 : decs cX7_putNumber [(0, .bipush 24, 2), (2, .istore_n 2, 1), (3, .iload_n 2, 1), (4, .ifCond .lt 45, 3), (7, .aload_n 0, 1), (8, .getfield 15, 3), (11, .sipush 740, 3), (14, .if_icmp .ge 29, 3), (17, .aload_n 0, 1), (18, .getfield 11, 3), (21, .aload_n 0, 1), (22, .getfield 15, 3), (25, .iload_n 1, 1), (26, .iload_n 2, 1), (27, .ishr, 1), (28, .sipush 255, 3), (31, .iand, 1), (32, .iastore, 1), (33, .aload_n 0, 1), (34, .dup, 1), (35, .getfield 15, 3), (38, .iconst 1, 1), (39, .iadd, 1), (40, .putfield 15, 3)] := by unfold decs; decide +kernel
theorem dX7_putNumber_0 : decode cX7_putNumber 0 = .ok (.bipush 24, 2) := decs_at DX7_putNumber_0 0 rfl
theorem dX7_putNumber_2 : decode cX7_putNumber 2 = .ok (.istore_n 2, 1) := decs_at DX7_putNumber_0 1 rfl
theorem dX7_putNumber_3 : decode cX7_putNumber 3 = .ok (.iload_n 2, 1) := decs_at DX7_putNumber_0 2 rfl
theorem dX7_putNumber_4 : decode cX7_putNumber 4 = .ok (.ifCond .lt 45, 3) := decs_at DX7_putNumber_0 3 rfl
theorem dX7_putNumber_7 : decode cX7_putNumber 7 = .ok (.aload_n 0, 1) := decs_at DX7_putNumber_0 4 rfl
theorem dX7_putNumber_8 : decode cX7_putNumber 8 = .ok (.getfield 15, 3) := decs_at DX7_putNumber_0 5 rfl
theorem dX7_putNumber_11 : decode cX7_putNumber 11 = .ok (.sipush 740, 3) := decs_at DX7_putNumber_0 6 rfl
theorem dX7_putNumber_14 : decode cX7_putNumber 14 = .ok (.if_icmp .ge 29, 3) := decs_at DX7_putNumber_0 7 rfl
theorem dX7_putNumber_17 : decode cX7_putNumber 17 = .ok (.aload_n 0, 1) := decs_at DX7_putNumber_0 8 rfl
theorem dX7_putNumber_18 : decode cX7_putNumber 18 = .ok (.getfield 11, 3) := decs_at DX7_putNumber_0 9 rfl
theorem dX7_putNumber_21 : decode cX7_putNumber 21 = .ok (.aload_n 0, 1) := decs_at DX7_putNumber_0 10 rfl
theorem dX7_putNumber_22 : decode cX7_putNumber 22 = .ok (.getfield 15, 3) := decs_at DX7_putNumber_0 11 rfl
theorem dX7_putNumber_25 : decode cX7_putNumber 25 = .ok (.iload_n 1, 1) := decs_at DX7_putNumber_0 12 rfl
theorem dX7_putNumber_26 : decode cX7_putNumber 26 = .ok (.iload_n 2, 1) := decs_at DX7_putNumber_0 13 rfl
theorem dX7_putNumber_27 : decode cX7_putNumber 27 = .ok (.ishr, 1) := decs_at DX7_putNumber_0 14 rfl
theorem dX7_putNumber_28 : decode cX7_putNumber 28 = .ok (.sipush 255, 3) := decs_at DX7_putNumber_0 15 rfl
theorem dX7_putNumber_31 : decode cX7_putNumber 31 = .ok (.iand, 1) := decs_at DX7_putNumber_0 16 rfl
theorem dX7_putNumber_32 : decode cX7_putNumber 32 = .ok (.iastore, 1) := decs_at DX7_putNumber_0 17 rfl
theorem dX7_putNumber_33 : decode cX7_putNumber 33 = .ok (.aload_n 0, 1) := decs_at DX7_putNumber_0 18 rfl
theorem dX7_putNumber_34 : decode cX7_putNumber 34 = .ok (.dup, 1) := decs_at DX7_putNumber_0 19 rfl
theorem dX7_putNumber_35 : decode cX7_putNumber 35 = .ok (.getfield 15, 3) := decs_at DX7_putNumber_0 20 rfl
theorem dX7_putNumber_38 : decode cX7_putNumber 38 = .ok (.iconst 1, 1) := decs_at DX7_putNumber_0 21 rfl
theorem dX7_putNumber_39 : decode cX7_putNumber 39 = .ok (.iadd, 1) := decs_at DX7_putNumber_0 22 rfl
theorem dX7_putNumber_40 : decode cX7_putNumber 40 = .ok (.putfield 15, 3) := decs_at DX7_putNumber_0 23 rfl
theorem DX7_putNumber_24 : decs cX7_putNumber [(43, .iinc 2 (-8), 3), (46, .goto (-43), 3), (49, .return_, 1)] := by unfold decs; decide +kernel
theorem dX7_putNumber_43 : decode cX7_putNumber 43 = .ok (.iinc 2 (-8), 3) := decs_at DX7_putNumber_24 0 rfl
theorem dX7_putNumber_46 : decode cX7_putNumber 46 = .ok (.goto (-43), 3) := decs_at DX7_putNumber_24 1 rfl
theorem dX7_putNumber_49 : decode cX7_putNumber 49 = .ok (.return_, 1) := decs_at DX7_putNumber_24 2 rfl
theorem DX7_keepFirst_0 : decs cX7_keepFirst [(0, .iload_n 1, 1), (1, .ifCond .lt 11, 3), (4, .iload_n 1, 1), (5, .aload_n 0, 1), (6, .getfield 15, 3), (9, .if_icmp .le 5, 3), (12, .iconst 0, 1), (13, .ireturn, 1), (14, .aload_n 0, 1), (15, .iload_n 1, 1), (16, .putfield 15, 3), (19, .iconst 1, 1), (20, .ireturn, 1)] := by unfold decs; decide +kernel
theorem dX7_keepFirst_0 : decode cX7_keepFirst 0 = .ok (.iload_n 1, 1) := decs_at DX7_keepFirst_0 0 rfl
theorem dX7_keepFirst_1 : decode cX7_keepFirst 1 = .ok (.ifCond .lt 11, 3) := decs_at DX7_keepFirst_0 1 rfl
theorem dX7_keepFirst_4 : decode cX7_keepFirst 4 = .ok (.iload_n 1, 1) := decs_at DX7_keepFirst_0 2 rfl
theorem dX7_keepFirst_5 : decode cX7_keepFirst 5 = .ok (.aload_n 0, 1) := decs_at DX7_keepFirst_0 3 rfl
theorem dX7_keepFirst_6 : decode cX7_keepFirst 6 = .ok (.getfield 15, 3) := decs_at DX7_keepFirst_0 4 rfl
theorem dX7_keepFirst_9 : decode cX7_keepFirst 9 = .ok (.if_icmp .le 5, 3) := decs_at DX7_keepFirst_0 5 rfl
theorem dX7_keepFirst_12 : decode cX7_keepFirst 12 = .ok (.iconst 0, 1) := decs_at DX7_keepFirst_0 6 rfl
theorem dX7_keepFirst_13 : decode cX7_keepFirst 13 = .ok (.ireturn, 1) := decs_at DX7_keepFirst_0 7 rfl
theorem dX7_keepFirst_14 : decode cX7_keepFirst 14 = .ok (.aload_n 0, 1) := decs_at DX7_keepFirst_0 8 rfl
theorem dX7_keepFirst_15 : decode cX7_keepFirst 15 = .ok (.iload_n 1, 1) := decs_at DX7_keepFirst_0 9 rfl
theorem dX7_keepFirst_16 : decode cX7_keepFirst 16 = .ok (.putfield 15, 3) := decs_at DX7_keepFirst_0 10 rfl
theorem dX7_keepFirst_19 : decode cX7_keepFirst 19 = .ok (.iconst 1, 1) := decs_at DX7_keepFirst_0 11 rfl
theorem dX7_keepFirst_20 : decode cX7_keepFirst 20 = .ok (.ireturn, 1) := decs_at DX7_keepFirst_0 12 rfl
theorem DX7_byteAt_0 : decs cX7_byteAt [(0, .iload_n 1, 1), (1, .ifCond .lt 20, 3), (4, .iload_n 1, 1), (5, .aload_n 0, 1), (6, .getfield 15, 3), (9, .if_icmp .ge 12, 3), (12, .aload_n 0, 1), (13, .getfield 11, 3), (16, .iload_n 1, 1), (17, .iaload, 1), (18, .goto 4, 3), (21, .iconst (-1), 1), (22, .ireturn, 1)] := by unfold decs; decide +kernel
theorem dX7_byteAt_0 : decode cX7_byteAt 0 = .ok (.iload_n 1, 1) := decs_at DX7_byteAt_0 0 rfl
theorem dX7_byteAt_1 : decode cX7_byteAt 1 = .ok (.ifCond .lt 20, 3) := decs_at DX7_byteAt_0 1 rfl
theorem dX7_byteAt_4 : decode cX7_byteAt 4 = .ok (.iload_n 1, 1) := decs_at DX7_byteAt_0 2 rfl
theorem dX7_byteAt_5 : decode cX7_byteAt 5 = .ok (.aload_n 0, 1) := decs_at DX7_byteAt_0 3 rfl
theorem dX7_byteAt_6 : decode cX7_byteAt 6 = .ok (.getfield 15, 3) := decs_at DX7_byteAt_0 4 rfl
theorem dX7_byteAt_9 : decode cX7_byteAt 9 = .ok (.if_icmp .ge 12, 3) := decs_at DX7_byteAt_0 5 rfl
theorem dX7_byteAt_12 : decode cX7_byteAt 12 = .ok (.aload_n 0, 1) := decs_at DX7_byteAt_0 6 rfl
theorem dX7_byteAt_13 : decode cX7_byteAt 13 = .ok (.getfield 11, 3) := decs_at DX7_byteAt_0 7 rfl
theorem dX7_byteAt_16 : decode cX7_byteAt 16 = .ok (.iload_n 1, 1) := decs_at DX7_byteAt_0 8 rfl
theorem dX7_byteAt_17 : decode cX7_byteAt 17 = .ok (.iaload, 1) := decs_at DX7_byteAt_0 9 rfl
theorem dX7_byteAt_18 : decode cX7_byteAt 18 = .ok (.goto 4, 3) := decs_at DX7_byteAt_0 10 rfl
theorem dX7_byteAt_21 : decode cX7_byteAt 21 = .ok (.iconst (-1), 1) := decs_at DX7_byteAt_0 11 rfl
theorem dX7_byteAt_22 : decode cX7_byteAt 22 = .ok (.ireturn, 1) := decs_at DX7_byteAt_0 12 rfl
theorem DX7_pairAt_0 : decs cX7_pairAt [(0, .aload_n 0, 1), (1, .iload_n 1, 1), (2, .invokevirtual 19, 3), (5, .sipush 256, 3), (8, .imul, 1), (9, .aload_n 0, 1), (10, .iload_n 1, 1), (11, .iconst 1, 1), (12, .iadd, 1), (13, .invokevirtual 19, 3), (16, .iadd, 1), (17, .ireturn, 1)] := by unfold decs; decide +kernel
theorem dX7_pairAt_0 : decode cX7_pairAt 0 = .ok (.aload_n 0, 1) := decs_at DX7_pairAt_0 0 rfl
theorem dX7_pairAt_1 : decode cX7_pairAt 1 = .ok (.iload_n 1, 1) := decs_at DX7_pairAt_0 1 rfl
theorem dX7_pairAt_2 : decode cX7_pairAt 2 = .ok (.invokevirtual 19, 3) := decs_at DX7_pairAt_0 2 rfl
theorem dX7_pairAt_5 : decode cX7_pairAt 5 = .ok (.sipush 256, 3) := decs_at DX7_pairAt_0 3 rfl
theorem dX7_pairAt_8 : decode cX7_pairAt 8 = .ok (.imul, 1) := decs_at DX7_pairAt_0 4 rfl
theorem dX7_pairAt_9 : decode cX7_pairAt 9 = .ok (.aload_n 0, 1) := decs_at DX7_pairAt_0 5 rfl
theorem dX7_pairAt_10 : decode cX7_pairAt 10 = .ok (.iload_n 1, 1) := decs_at DX7_pairAt_0 6 rfl
theorem dX7_pairAt_11 : decode cX7_pairAt 11 = .ok (.iconst 1, 1) := decs_at DX7_pairAt_0 7 rfl
theorem dX7_pairAt_12 : decode cX7_pairAt 12 = .ok (.iadd, 1) := decs_at DX7_pairAt_0 8 rfl
theorem dX7_pairAt_13 : decode cX7_pairAt 13 = .ok (.invokevirtual 19, 3) := decs_at DX7_pairAt_0 9 rfl
theorem dX7_pairAt_16 : decode cX7_pairAt 16 = .ok (.iadd, 1) := decs_at DX7_pairAt_0 10 rfl
theorem dX7_pairAt_17 : decode cX7_pairAt 17 = .ok (.ireturn, 1) := decs_at DX7_pairAt_0 11 rfl
theorem DX4_clear_0 : decs cX4_clear [(0, .aload_n 0, 1), (1, .iconst 0, 1), (2, .putfield 9, 3), (5, .aload_n 0, 1), (6, .iconst 0, 1), (7, .putfield 15, 3), (10, .return_, 1)] := by unfold decs; decide +kernel
theorem dX4_clear_0 : decode cX4_clear 0 = .ok (.aload_n 0, 1) := decs_at DX4_clear_0 0 rfl
theorem dX4_clear_1 : decode cX4_clear 1 = .ok (.iconst 0, 1) := decs_at DX4_clear_0 1 rfl
theorem dX4_clear_2 : decode cX4_clear 2 = .ok (.putfield 9, 3) := decs_at DX4_clear_0 2 rfl
theorem dX4_clear_5 : decode cX4_clear 5 = .ok (.aload_n 0, 1) := decs_at DX4_clear_0 3 rfl
theorem dX4_clear_6 : decode cX4_clear 6 = .ok (.iconst 0, 1) := decs_at DX4_clear_0 4 rfl
theorem dX4_clear_7 : decode cX4_clear 7 = .ok (.putfield 15, 3) := decs_at DX4_clear_0 5 rfl
theorem dX4_clear_10 : decode cX4_clear 10 = .ok (.return_, 1) := decs_at DX4_clear_0 6 rfl
theorem DX4_addStep_0 : decs cX4_addStep [(0, .aload_n 0, 1), (1, .getfield 9, 3), (4, .bipush 20, 2), (6, .if_icmp .lt 4, 3), (9, .return_, 1), (10, .aload_n 0, 1), (11, .invokevirtual 29, 3), (14, .istore 4, 2), (16, .aload_n 0, 1), (17, .getfield 19, 3), (20, .aload_n 0, 1), (21, .getfield 9, 3), (24, .iload_n 1, 1), (25, .iastore, 1), (26, .aload_n 0, 1), (27, .getfield 23, 3), (30, .aload_n 0, 1), (31, .getfield 9, 3), (34, .iload_n 2, 1), (35, .iastore, 1), (36, .aload_n 0, 1), (37, .getfield 26, 3), (40, .aload_n 0, 1), (41, .getfield 9, 3)] := by unfold decs; decide +kernel
theorem dX4_addStep_0 : decode cX4_addStep 0 = .ok (.aload_n 0, 1) := decs_at DX4_addStep_0 0 rfl
theorem dX4_addStep_1 : decode cX4_addStep 1 = .ok (.getfield 9, 3) := decs_at DX4_addStep_0 1 rfl
theorem dX4_addStep_4 : decode cX4_addStep 4 = .ok (.bipush 20, 2) := decs_at DX4_addStep_0 2 rfl
theorem dX4_addStep_6 : decode cX4_addStep 6 = .ok (.if_icmp .lt 4, 3) := decs_at DX4_addStep_0 3 rfl
theorem dX4_addStep_9 : decode cX4_addStep 9 = .ok (.return_, 1) := decs_at DX4_addStep_0 4 rfl
theorem dX4_addStep_10 : decode cX4_addStep 10 = .ok (.aload_n 0, 1) := decs_at DX4_addStep_0 5 rfl
theorem dX4_addStep_11 : decode cX4_addStep 11 = .ok (.invokevirtual 29, 3) := decs_at DX4_addStep_0 6 rfl
theorem dX4_addStep_14 : decode cX4_addStep 14 = .ok (.istore 4, 2) := decs_at DX4_addStep_0 7 rfl
theorem dX4_addStep_16 : decode cX4_addStep 16 = .ok (.aload_n 0, 1) := decs_at DX4_addStep_0 8 rfl
theorem dX4_addStep_17 : decode cX4_addStep 17 = .ok (.getfield 19, 3) := decs_at DX4_addStep_0 9 rfl
theorem dX4_addStep_20 : decode cX4_addStep 20 = .ok (.aload_n 0, 1) := decs_at DX4_addStep_0 10 rfl
theorem dX4_addStep_21 : decode cX4_addStep 21 = .ok (.getfield 9, 3) := decs_at DX4_addStep_0 11 rfl
theorem dX4_addStep_24 : decode cX4_addStep 24 = .ok (.iload_n 1, 1) := decs_at DX4_addStep_0 12 rfl
theorem dX4_addStep_25 : decode cX4_addStep 25 = .ok (.iastore, 1) := decs_at DX4_addStep_0 13 rfl
theorem dX4_addStep_26 : decode cX4_addStep 26 = .ok (.aload_n 0, 1) := decs_at DX4_addStep_0 14 rfl
theorem dX4_addStep_27 : decode cX4_addStep 27 = .ok (.getfield 23, 3) := decs_at DX4_addStep_0 15 rfl
theorem dX4_addStep_30 : decode cX4_addStep 30 = .ok (.aload_n 0, 1) := decs_at DX4_addStep_0 16 rfl
theorem dX4_addStep_31 : decode cX4_addStep 31 = .ok (.getfield 9, 3) := decs_at DX4_addStep_0 17 rfl
theorem dX4_addStep_34 : decode cX4_addStep 34 = .ok (.iload_n 2, 1) := decs_at DX4_addStep_0 18 rfl
theorem dX4_addStep_35 : decode cX4_addStep 35 = .ok (.iastore, 1) := decs_at DX4_addStep_0 19 rfl
theorem dX4_addStep_36 : decode cX4_addStep 36 = .ok (.aload_n 0, 1) := decs_at DX4_addStep_0 20 rfl
theorem dX4_addStep_37 : decode cX4_addStep 37 = .ok (.getfield 26, 3) := decs_at DX4_addStep_0 21 rfl
theorem dX4_addStep_40 : decode cX4_addStep 40 = .ok (.aload_n 0, 1) := decs_at DX4_addStep_0 22 rfl
theorem dX4_addStep_41 : decode cX4_addStep 41 = .ok (.getfield 9, 3) := decs_at DX4_addStep_0 23 rfl
theorem DX4_addStep_24 : decs cX4_addStep [(44, .iload 4, 2), (46, .iload_n 3, 1), (47, .iadd, 1), (48, .iastore, 1), (49, .aload_n 0, 1), (50, .dup, 1), (51, .getfield 9, 3), (54, .iconst 1, 1), (55, .iadd, 1), (56, .putfield 9, 3), (59, .return_, 1)] := by unfold decs; decide +kernel
theorem dX4_addStep_44 : decode cX4_addStep 44 = .ok (.iload 4, 2) := decs_at DX4_addStep_24 0 rfl
theorem dX4_addStep_46 : decode cX4_addStep 46 = .ok (.iload_n 3, 1) := decs_at DX4_addStep_24 1 rfl
theorem dX4_addStep_47 : decode cX4_addStep 47 = .ok (.iadd, 1) := decs_at DX4_addStep_24 2 rfl
theorem dX4_addStep_48 : decode cX4_addStep 48 = .ok (.iastore, 1) := decs_at DX4_addStep_24 3 rfl
theorem dX4_addStep_49 : decode cX4_addStep 49 = .ok (.aload_n 0, 1) := decs_at DX4_addStep_24 4 rfl
theorem dX4_addStep_50 : decode cX4_addStep 50 = .ok (.dup, 1) := decs_at DX4_addStep_24 5 rfl
theorem dX4_addStep_51 : decode cX4_addStep 51 = .ok (.getfield 9, 3) := decs_at DX4_addStep_24 6 rfl
theorem dX4_addStep_54 : decode cX4_addStep 54 = .ok (.iconst 1, 1) := decs_at DX4_addStep_24 7 rfl
theorem dX4_addStep_55 : decode cX4_addStep 55 = .ok (.iadd, 1) := decs_at DX4_addStep_24 8 rfl
theorem dX4_addStep_56 : decode cX4_addStep 56 = .ok (.putfield 9, 3) := decs_at DX4_addStep_24 9 rfl
theorem dX4_addStep_59 : decode cX4_addStep 59 = .ok (.return_, 1) := decs_at DX4_addStep_24 10 rfl
theorem DX4_copyFrom_0 : decs cX4_copyFrom [(0, .aload_n 0, 1), (1, .aload_n 1, 1), (2, .getfield 9, 3), (5, .putfield 9, 3), (8, .aload_n 0, 1), (9, .aload_n 1, 1), (10, .getfield 15, 3), (13, .putfield 15, 3), (16, .aload_n 1, 1), (17, .getfield 19, 3), (20, .iconst 0, 1), (21, .aload_n 0, 1), (22, .getfield 19, 3), (25, .iconst 0, 1), (26, .bipush 20, 2), (28, .invokestatic 33, 3), (31, .aload_n 1, 1), (32, .getfield 23, 3), (35, .iconst 0, 1), (36, .aload_n 0, 1), (37, .getfield 23, 3), (40, .iconst 0, 1), (41, .bipush 20, 2), (43, .invokestatic 33, 3)] := by unfold decs; decide +kernel
theorem dX4_copyFrom_0 : decode cX4_copyFrom 0 = .ok (.aload_n 0, 1) := decs_at DX4_copyFrom_0 0 rfl
theorem dX4_copyFrom_1 : decode cX4_copyFrom 1 = .ok (.aload_n 1, 1) := decs_at DX4_copyFrom_0 1 rfl
theorem dX4_copyFrom_2 : decode cX4_copyFrom 2 = .ok (.getfield 9, 3) := decs_at DX4_copyFrom_0 2 rfl
theorem dX4_copyFrom_5 : decode cX4_copyFrom 5 = .ok (.putfield 9, 3) := decs_at DX4_copyFrom_0 3 rfl
theorem dX4_copyFrom_8 : decode cX4_copyFrom 8 = .ok (.aload_n 0, 1) := decs_at DX4_copyFrom_0 4 rfl
theorem dX4_copyFrom_9 : decode cX4_copyFrom 9 = .ok (.aload_n 1, 1) := decs_at DX4_copyFrom_0 5 rfl
theorem dX4_copyFrom_10 : decode cX4_copyFrom 10 = .ok (.getfield 15, 3) := decs_at DX4_copyFrom_0 6 rfl
theorem dX4_copyFrom_13 : decode cX4_copyFrom 13 = .ok (.putfield 15, 3) := decs_at DX4_copyFrom_0 7 rfl
theorem dX4_copyFrom_16 : decode cX4_copyFrom 16 = .ok (.aload_n 1, 1) := decs_at DX4_copyFrom_0 8 rfl
theorem dX4_copyFrom_17 : decode cX4_copyFrom 17 = .ok (.getfield 19, 3) := decs_at DX4_copyFrom_0 9 rfl
theorem dX4_copyFrom_20 : decode cX4_copyFrom 20 = .ok (.iconst 0, 1) := decs_at DX4_copyFrom_0 10 rfl
theorem dX4_copyFrom_21 : decode cX4_copyFrom 21 = .ok (.aload_n 0, 1) := decs_at DX4_copyFrom_0 11 rfl
theorem dX4_copyFrom_22 : decode cX4_copyFrom 22 = .ok (.getfield 19, 3) := decs_at DX4_copyFrom_0 12 rfl
theorem dX4_copyFrom_25 : decode cX4_copyFrom 25 = .ok (.iconst 0, 1) := decs_at DX4_copyFrom_0 13 rfl
theorem dX4_copyFrom_26 : decode cX4_copyFrom 26 = .ok (.bipush 20, 2) := decs_at DX4_copyFrom_0 14 rfl
theorem dX4_copyFrom_28 : decode cX4_copyFrom 28 = .ok (.invokestatic 33, 3) := decs_at DX4_copyFrom_0 15 rfl
theorem dX4_copyFrom_31 : decode cX4_copyFrom 31 = .ok (.aload_n 1, 1) := decs_at DX4_copyFrom_0 16 rfl
theorem dX4_copyFrom_32 : decode cX4_copyFrom 32 = .ok (.getfield 23, 3) := decs_at DX4_copyFrom_0 17 rfl
theorem dX4_copyFrom_35 : decode cX4_copyFrom 35 = .ok (.iconst 0, 1) := decs_at DX4_copyFrom_0 18 rfl
theorem dX4_copyFrom_36 : decode cX4_copyFrom 36 = .ok (.aload_n 0, 1) := decs_at DX4_copyFrom_0 19 rfl
theorem dX4_copyFrom_37 : decode cX4_copyFrom 37 = .ok (.getfield 23, 3) := decs_at DX4_copyFrom_0 20 rfl
theorem dX4_copyFrom_40 : decode cX4_copyFrom 40 = .ok (.iconst 0, 1) := decs_at DX4_copyFrom_0 21 rfl
theorem dX4_copyFrom_41 : decode cX4_copyFrom 41 = .ok (.bipush 20, 2) := decs_at DX4_copyFrom_0 22 rfl
theorem dX4_copyFrom_43 : decode cX4_copyFrom 43 = .ok (.invokestatic 33, 3) := decs_at DX4_copyFrom_0 23 rfl
theorem DX4_copyFrom_24 : decs cX4_copyFrom [(46, .aload_n 1, 1), (47, .getfield 26, 3), (50, .iconst 0, 1), (51, .aload_n 0, 1), (52, .getfield 26, 3), (55, .iconst 0, 1), (56, .bipush 20, 2), (58, .invokestatic 33, 3), (61, .return_, 1)] := by unfold decs; decide +kernel
theorem dX4_copyFrom_46 : decode cX4_copyFrom 46 = .ok (.aload_n 1, 1) := decs_at DX4_copyFrom_24 0 rfl
theorem dX4_copyFrom_47 : decode cX4_copyFrom 47 = .ok (.getfield 26, 3) := decs_at DX4_copyFrom_24 1 rfl
theorem dX4_copyFrom_50 : decode cX4_copyFrom 50 = .ok (.iconst 0, 1) := decs_at DX4_copyFrom_24 2 rfl
theorem dX4_copyFrom_51 : decode cX4_copyFrom 51 = .ok (.aload_n 0, 1) := decs_at DX4_copyFrom_24 3 rfl
theorem dX4_copyFrom_52 : decode cX4_copyFrom 52 = .ok (.getfield 26, 3) := decs_at DX4_copyFrom_24 4 rfl
theorem dX4_copyFrom_55 : decode cX4_copyFrom 55 = .ok (.iconst 0, 1) := decs_at DX4_copyFrom_24 5 rfl
theorem dX4_copyFrom_56 : decode cX4_copyFrom 56 = .ok (.bipush 20, 2) := decs_at DX4_copyFrom_24 6 rfl
theorem dX4_copyFrom_58 : decode cX4_copyFrom 58 = .ok (.invokestatic 33, 3) := decs_at DX4_copyFrom_24 7 rfl
theorem dX4_copyFrom_61 : decode cX4_copyFrom 61 = .ok (.return_, 1) := decs_at DX4_copyFrom_24 8 rfl
theorem DX4_allTicks_0 : decs cX4_allTicks [(0, .aload_n 0, 1), (1, .getfield 9, 3), (4, .iconst 1, 1), (5, .if_icmp .lt 26, 3), (8, .aload_n 0, 1), (9, .getfield 9, 3), (12, .bipush 20, 2), (14, .if_icmp .gt 17, 3), (17, .aload_n 0, 1), (18, .getfield 26, 3), (21, .aload_n 0, 1), (22, .getfield 9, 3), (25, .iconst 1, 1), (26, .isub, 1), (27, .iaload, 1), (28, .goto 4, 3), (31, .iconst 0, 1), (32, .ireturn, 1)] := by unfold decs; decide +kernel
theorem dX4_allTicks_0 : decode cX4_allTicks 0 = .ok (.aload_n 0, 1) := decs_at DX4_allTicks_0 0 rfl
theorem dX4_allTicks_1 : decode cX4_allTicks 1 = .ok (.getfield 9, 3) := decs_at DX4_allTicks_0 1 rfl
theorem dX4_allTicks_4 : decode cX4_allTicks 4 = .ok (.iconst 1, 1) := decs_at DX4_allTicks_0 2 rfl
theorem dX4_allTicks_5 : decode cX4_allTicks 5 = .ok (.if_icmp .lt 26, 3) := decs_at DX4_allTicks_0 3 rfl
theorem dX4_allTicks_8 : decode cX4_allTicks 8 = .ok (.aload_n 0, 1) := decs_at DX4_allTicks_0 4 rfl
theorem dX4_allTicks_9 : decode cX4_allTicks 9 = .ok (.getfield 9, 3) := decs_at DX4_allTicks_0 5 rfl
theorem dX4_allTicks_12 : decode cX4_allTicks 12 = .ok (.bipush 20, 2) := decs_at DX4_allTicks_0 6 rfl
theorem dX4_allTicks_14 : decode cX4_allTicks 14 = .ok (.if_icmp .gt 17, 3) := decs_at DX4_allTicks_0 7 rfl
theorem dX4_allTicks_17 : decode cX4_allTicks 17 = .ok (.aload_n 0, 1) := decs_at DX4_allTicks_0 8 rfl
theorem dX4_allTicks_18 : decode cX4_allTicks 18 = .ok (.getfield 26, 3) := decs_at DX4_allTicks_0 9 rfl
theorem dX4_allTicks_21 : decode cX4_allTicks 21 = .ok (.aload_n 0, 1) := decs_at DX4_allTicks_0 10 rfl
theorem dX4_allTicks_22 : decode cX4_allTicks 22 = .ok (.getfield 9, 3) := decs_at DX4_allTicks_0 11 rfl
theorem dX4_allTicks_25 : decode cX4_allTicks 25 = .ok (.iconst 1, 1) := decs_at DX4_allTicks_0 12 rfl
theorem dX4_allTicks_26 : decode cX4_allTicks 26 = .ok (.isub, 1) := decs_at DX4_allTicks_0 13 rfl
theorem dX4_allTicks_27 : decode cX4_allTicks 27 = .ok (.iaload, 1) := decs_at DX4_allTicks_0 14 rfl
theorem dX4_allTicks_28 : decode cX4_allTicks 28 = .ok (.goto 4, 3) := decs_at DX4_allTicks_0 15 rfl
theorem dX4_allTicks_31 : decode cX4_allTicks 31 = .ok (.iconst 0, 1) := decs_at DX4_allTicks_0 16 rfl
theorem dX4_allTicks_32 : decode cX4_allTicks 32 = .ok (.ireturn, 1) := decs_at DX4_allTicks_0 17 rfl
theorem DX4_actOf_0 : decs cX4_actOf [(0, .iload_n 1, 1), (1, .ifCond .lt 26, 3), (4, .iload_n 1, 1), (5, .aload_n 0, 1), (6, .getfield 9, 3), (9, .if_icmp .ge 18, 3), (12, .iload_n 1, 1), (13, .bipush 20, 2), (15, .if_icmp .ge 12, 3), (18, .aload_n 0, 1), (19, .getfield 19, 3), (22, .iload_n 1, 1), (23, .iaload, 1), (24, .goto 4, 3), (27, .iconst 1, 1), (28, .ireturn, 1)] := by unfold decs; decide +kernel
theorem dX4_actOf_0 : decode cX4_actOf 0 = .ok (.iload_n 1, 1) := decs_at DX4_actOf_0 0 rfl
theorem dX4_actOf_1 : decode cX4_actOf 1 = .ok (.ifCond .lt 26, 3) := decs_at DX4_actOf_0 1 rfl
theorem dX4_actOf_4 : decode cX4_actOf 4 = .ok (.iload_n 1, 1) := decs_at DX4_actOf_0 2 rfl
theorem dX4_actOf_5 : decode cX4_actOf 5 = .ok (.aload_n 0, 1) := decs_at DX4_actOf_0 3 rfl
theorem dX4_actOf_6 : decode cX4_actOf 6 = .ok (.getfield 9, 3) := decs_at DX4_actOf_0 4 rfl
theorem dX4_actOf_9 : decode cX4_actOf 9 = .ok (.if_icmp .ge 18, 3) := decs_at DX4_actOf_0 5 rfl
theorem dX4_actOf_12 : decode cX4_actOf 12 = .ok (.iload_n 1, 1) := decs_at DX4_actOf_0 6 rfl
theorem dX4_actOf_13 : decode cX4_actOf 13 = .ok (.bipush 20, 2) := decs_at DX4_actOf_0 7 rfl
theorem dX4_actOf_15 : decode cX4_actOf 15 = .ok (.if_icmp .ge 12, 3) := decs_at DX4_actOf_0 8 rfl
theorem dX4_actOf_18 : decode cX4_actOf 18 = .ok (.aload_n 0, 1) := decs_at DX4_actOf_0 9 rfl
theorem dX4_actOf_19 : decode cX4_actOf 19 = .ok (.getfield 19, 3) := decs_at DX4_actOf_0 10 rfl
theorem dX4_actOf_22 : decode cX4_actOf 22 = .ok (.iload_n 1, 1) := decs_at DX4_actOf_0 11 rfl
theorem dX4_actOf_23 : decode cX4_actOf 23 = .ok (.iaload, 1) := decs_at DX4_actOf_0 12 rfl
theorem dX4_actOf_24 : decode cX4_actOf 24 = .ok (.goto 4, 3) := decs_at DX4_actOf_0 13 rfl
theorem dX4_actOf_27 : decode cX4_actOf 27 = .ok (.iconst 1, 1) := decs_at DX4_actOf_0 14 rfl
theorem dX4_actOf_28 : decode cX4_actOf 28 = .ok (.ireturn, 1) := decs_at DX4_actOf_0 15 rfl
theorem DX4_amountOf_0 : decs cX4_amountOf [(0, .iload_n 1, 1), (1, .ifCond .lt 26, 3), (4, .iload_n 1, 1), (5, .aload_n 0, 1), (6, .getfield 9, 3), (9, .if_icmp .ge 18, 3), (12, .iload_n 1, 1), (13, .bipush 20, 2), (15, .if_icmp .ge 12, 3), (18, .aload_n 0, 1), (19, .getfield 23, 3), (22, .iload_n 1, 1), (23, .iaload, 1), (24, .goto 4, 3), (27, .iconst 0, 1), (28, .ireturn, 1)] := by unfold decs; decide +kernel
theorem dX4_amountOf_0 : decode cX4_amountOf 0 = .ok (.iload_n 1, 1) := decs_at DX4_amountOf_0 0 rfl
theorem dX4_amountOf_1 : decode cX4_amountOf 1 = .ok (.ifCond .lt 26, 3) := decs_at DX4_amountOf_0 1 rfl
theorem dX4_amountOf_4 : decode cX4_amountOf 4 = .ok (.iload_n 1, 1) := decs_at DX4_amountOf_0 2 rfl
theorem dX4_amountOf_5 : decode cX4_amountOf 5 = .ok (.aload_n 0, 1) := decs_at DX4_amountOf_0 3 rfl
theorem dX4_amountOf_6 : decode cX4_amountOf 6 = .ok (.getfield 9, 3) := decs_at DX4_amountOf_0 4 rfl
theorem dX4_amountOf_9 : decode cX4_amountOf 9 = .ok (.if_icmp .ge 18, 3) := decs_at DX4_amountOf_0 5 rfl
theorem dX4_amountOf_12 : decode cX4_amountOf 12 = .ok (.iload_n 1, 1) := decs_at DX4_amountOf_0 6 rfl
theorem dX4_amountOf_13 : decode cX4_amountOf 13 = .ok (.bipush 20, 2) := decs_at DX4_amountOf_0 7 rfl
theorem dX4_amountOf_15 : decode cX4_amountOf 15 = .ok (.if_icmp .ge 12, 3) := decs_at DX4_amountOf_0 8 rfl
theorem dX4_amountOf_18 : decode cX4_amountOf 18 = .ok (.aload_n 0, 1) := decs_at DX4_amountOf_0 9 rfl
theorem dX4_amountOf_19 : decode cX4_amountOf 19 = .ok (.getfield 23, 3) := decs_at DX4_amountOf_0 10 rfl
theorem dX4_amountOf_22 : decode cX4_amountOf 22 = .ok (.iload_n 1, 1) := decs_at DX4_amountOf_0 11 rfl
theorem dX4_amountOf_23 : decode cX4_amountOf 23 = .ok (.iaload, 1) := decs_at DX4_amountOf_0 12 rfl
theorem dX4_amountOf_24 : decode cX4_amountOf 24 = .ok (.goto 4, 3) := decs_at DX4_amountOf_0 13 rfl
theorem dX4_amountOf_27 : decode cX4_amountOf 27 = .ok (.iconst 0, 1) := decs_at DX4_amountOf_0 14 rfl
theorem dX4_amountOf_28 : decode cX4_amountOf 28 = .ok (.ireturn, 1) := decs_at DX4_amountOf_0 15 rfl
theorem DX4_isOver_0 : decs cX4_isOver [(0, .iload_n 1, 1), (1, .ifCond .lt 33, 3), (4, .iload_n 1, 1), (5, .aload_n 0, 1), (6, .getfield 9, 3), (9, .iconst 1, 1), (10, .isub, 1), (11, .if_icmp .ge 23, 3), (14, .iload_n 1, 1), (15, .bipush 20, 2), (17, .if_icmp .ge 17, 3), (20, .iload_n 2, 1), (21, .aload_n 0, 1), (22, .getfield 26, 3), (25, .iload_n 1, 1), (26, .iaload, 1), (27, .if_icmp .le 7, 3), (30, .iconst 1, 1), (31, .goto 4, 3), (34, .iconst 0, 1), (35, .ireturn, 1)] := by unfold decs; decide +kernel
theorem dX4_isOver_0 : decode cX4_isOver 0 = .ok (.iload_n 1, 1) := decs_at DX4_isOver_0 0 rfl
theorem dX4_isOver_1 : decode cX4_isOver 1 = .ok (.ifCond .lt 33, 3) := decs_at DX4_isOver_0 1 rfl
theorem dX4_isOver_4 : decode cX4_isOver 4 = .ok (.iload_n 1, 1) := decs_at DX4_isOver_0 2 rfl
theorem dX4_isOver_5 : decode cX4_isOver 5 = .ok (.aload_n 0, 1) := decs_at DX4_isOver_0 3 rfl
theorem dX4_isOver_6 : decode cX4_isOver 6 = .ok (.getfield 9, 3) := decs_at DX4_isOver_0 4 rfl
theorem dX4_isOver_9 : decode cX4_isOver 9 = .ok (.iconst 1, 1) := decs_at DX4_isOver_0 5 rfl
theorem dX4_isOver_10 : decode cX4_isOver 10 = .ok (.isub, 1) := decs_at DX4_isOver_0 6 rfl
theorem dX4_isOver_11 : decode cX4_isOver 11 = .ok (.if_icmp .ge 23, 3) := decs_at DX4_isOver_0 7 rfl
theorem dX4_isOver_14 : decode cX4_isOver 14 = .ok (.iload_n 1, 1) := decs_at DX4_isOver_0 8 rfl
theorem dX4_isOver_15 : decode cX4_isOver 15 = .ok (.bipush 20, 2) := decs_at DX4_isOver_0 9 rfl
theorem dX4_isOver_17 : decode cX4_isOver 17 = .ok (.if_icmp .ge 17, 3) := decs_at DX4_isOver_0 10 rfl
theorem dX4_isOver_20 : decode cX4_isOver 20 = .ok (.iload_n 2, 1) := decs_at DX4_isOver_0 11 rfl
theorem dX4_isOver_21 : decode cX4_isOver 21 = .ok (.aload_n 0, 1) := decs_at DX4_isOver_0 12 rfl
theorem dX4_isOver_22 : decode cX4_isOver 22 = .ok (.getfield 26, 3) := decs_at DX4_isOver_0 13 rfl
theorem dX4_isOver_25 : decode cX4_isOver 25 = .ok (.iload_n 1, 1) := decs_at DX4_isOver_0 14 rfl
theorem dX4_isOver_26 : decode cX4_isOver 26 = .ok (.iaload, 1) := decs_at DX4_isOver_0 15 rfl
theorem dX4_isOver_27 : decode cX4_isOver 27 = .ok (.if_icmp .le 7, 3) := decs_at DX4_isOver_0 16 rfl
theorem dX4_isOver_30 : decode cX4_isOver 30 = .ok (.iconst 1, 1) := decs_at DX4_isOver_0 17 rfl
theorem dX4_isOver_31 : decode cX4_isOver 31 = .ok (.goto 4, 3) := decs_at DX4_isOver_0 18 rfl
theorem dX4_isOver_34 : decode cX4_isOver 34 = .ok (.iconst 0, 1) := decs_at DX4_isOver_0 19 rfl
theorem dX4_isOver_35 : decode cX4_isOver 35 = .ok (.ireturn, 1) := decs_at DX4_isOver_0 20 rfl
theorem DX5_has_0 : decs cX5_has [(0, .iload_n 1, 1), (1, .iconst 1, 1), (2, .if_icmp .lt 15, 3), (5, .iload_n 1, 1), (6, .aload_n 0, 1), (7, .getfield 9, 3), (10, .if_icmp .gt 7, 3), (13, .iconst 1, 1), (14, .goto 4, 3), (17, .iconst 0, 1), (18, .ireturn, 1)] := by unfold decs; decide +kernel
theorem dX5_has_0 : decode cX5_has 0 = .ok (.iload_n 1, 1) := decs_at DX5_has_0 0 rfl
theorem dX5_has_1 : decode cX5_has 1 = .ok (.iconst 1, 1) := decs_at DX5_has_0 1 rfl
theorem dX5_has_2 : decode cX5_has 2 = .ok (.if_icmp .lt 15, 3) := decs_at DX5_has_0 2 rfl
theorem dX5_has_5 : decode cX5_has 5 = .ok (.iload_n 1, 1) := decs_at DX5_has_0 3 rfl
theorem dX5_has_6 : decode cX5_has 6 = .ok (.aload_n 0, 1) := decs_at DX5_has_0 4 rfl
theorem dX5_has_7 : decode cX5_has 7 = .ok (.getfield 9, 3) := decs_at DX5_has_0 5 rfl
theorem dX5_has_10 : decode cX5_has 10 = .ok (.if_icmp .gt 7, 3) := decs_at DX5_has_0 6 rfl
theorem dX5_has_13 : decode cX5_has 13 = .ok (.iconst 1, 1) := decs_at DX5_has_0 7 rfl
theorem dX5_has_14 : decode cX5_has 14 = .ok (.goto 4, 3) := decs_at DX5_has_0 8 rfl
theorem dX5_has_17 : decode cX5_has 17 = .ok (.iconst 0, 1) := decs_at DX5_has_0 9 rfl
theorem dX5_has_18 : decode cX5_has 18 = .ok (.ireturn, 1) := decs_at DX5_has_0 10 rfl
theorem DX5_clear_0 : decs cX5_clear [(0, .aload_n 0, 1), (1, .iconst 0, 1), (2, .putfield 9, 3), (5, .aload_n 0, 1), (6, .sipush 700, 3), (9, .putfield 15, 3), (12, .aload_n 0, 1), (13, .bipush 40, 2), (15, .putfield 18, 3), (18, .return_, 1)] := by unfold decs; decide +kernel
theorem dX5_clear_0 : decode cX5_clear 0 = .ok (.aload_n 0, 1) := decs_at DX5_clear_0 0 rfl
theorem dX5_clear_1 : decode cX5_clear 1 = .ok (.iconst 0, 1) := decs_at DX5_clear_0 1 rfl
theorem dX5_clear_2 : decode cX5_clear 2 = .ok (.putfield 9, 3) := decs_at DX5_clear_0 2 rfl
theorem dX5_clear_5 : decode cX5_clear 5 = .ok (.aload_n 0, 1) := decs_at DX5_clear_0 3 rfl
theorem dX5_clear_6 : decode cX5_clear 6 = .ok (.sipush 700, 3) := decs_at DX5_clear_0 4 rfl
theorem dX5_clear_9 : decode cX5_clear 9 = .ok (.putfield 15, 3) := decs_at DX5_clear_0 5 rfl
theorem dX5_clear_12 : decode cX5_clear 12 = .ok (.aload_n 0, 1) := decs_at DX5_clear_0 6 rfl
theorem dX5_clear_13 : decode cX5_clear 13 = .ok (.bipush 40, 2) := decs_at DX5_clear_0 7 rfl
theorem dX5_clear_15 : decode cX5_clear 15 = .ok (.putfield 18, 3) := decs_at DX5_clear_0 8 rfl
theorem dX5_clear_18 : decode cX5_clear 18 = .ok (.return_, 1) := decs_at DX5_clear_0 9 rfl
theorem DX5_addCar_0 : decs cX5_addCar [(0, .aload_n 0, 1), (1, .getfield 9, 3), (4, .bipush 16, 2), (6, .if_icmp .lt 4, 3), (9, .return_, 1), (10, .aload_n 0, 1), (11, .dup, 1), (12, .getfield 9, 3), (15, .iconst 1, 1), (16, .iadd, 1), (17, .putfield 9, 3), (20, .aload_n 0, 1), (21, .getfield 21, 3), (24, .aload_n 0, 1), (25, .getfield 9, 3), (28, .iload_n 1, 1), (29, .iastore, 1), (30, .aload_n 0, 1), (31, .getfield 25, 3), (34, .aload_n 0, 1), (35, .getfield 9, 3), (38, .iload_n 2, 1), (39, .iastore, 1), (40, .aload_n 0, 1)] := by unfold decs; decide +kernel
theorem dX5_addCar_0 : decode cX5_addCar 0 = .ok (.aload_n 0, 1) := decs_at DX5_addCar_0 0 rfl
theorem dX5_addCar_1 : decode cX5_addCar 1 = .ok (.getfield 9, 3) := decs_at DX5_addCar_0 1 rfl
theorem dX5_addCar_4 : decode cX5_addCar 4 = .ok (.bipush 16, 2) := decs_at DX5_addCar_0 2 rfl
theorem dX5_addCar_6 : decode cX5_addCar 6 = .ok (.if_icmp .lt 4, 3) := decs_at DX5_addCar_0 3 rfl
theorem dX5_addCar_9 : decode cX5_addCar 9 = .ok (.return_, 1) := decs_at DX5_addCar_0 4 rfl
theorem dX5_addCar_10 : decode cX5_addCar 10 = .ok (.aload_n 0, 1) := decs_at DX5_addCar_0 5 rfl
theorem dX5_addCar_11 : decode cX5_addCar 11 = .ok (.dup, 1) := decs_at DX5_addCar_0 6 rfl
theorem dX5_addCar_12 : decode cX5_addCar 12 = .ok (.getfield 9, 3) := decs_at DX5_addCar_0 7 rfl
theorem dX5_addCar_15 : decode cX5_addCar 15 = .ok (.iconst 1, 1) := decs_at DX5_addCar_0 8 rfl
theorem dX5_addCar_16 : decode cX5_addCar 16 = .ok (.iadd, 1) := decs_at DX5_addCar_0 9 rfl
theorem dX5_addCar_17 : decode cX5_addCar 17 = .ok (.putfield 9, 3) := decs_at DX5_addCar_0 10 rfl
theorem dX5_addCar_20 : decode cX5_addCar 20 = .ok (.aload_n 0, 1) := decs_at DX5_addCar_0 11 rfl
theorem dX5_addCar_21 : decode cX5_addCar 21 = .ok (.getfield 21, 3) := decs_at DX5_addCar_0 12 rfl
theorem dX5_addCar_24 : decode cX5_addCar 24 = .ok (.aload_n 0, 1) := decs_at DX5_addCar_0 13 rfl
theorem dX5_addCar_25 : decode cX5_addCar 25 = .ok (.getfield 9, 3) := decs_at DX5_addCar_0 14 rfl
theorem dX5_addCar_28 : decode cX5_addCar 28 = .ok (.iload_n 1, 1) := decs_at DX5_addCar_0 15 rfl
theorem dX5_addCar_29 : decode cX5_addCar 29 = .ok (.iastore, 1) := decs_at DX5_addCar_0 16 rfl
theorem dX5_addCar_30 : decode cX5_addCar 30 = .ok (.aload_n 0, 1) := decs_at DX5_addCar_0 17 rfl
theorem dX5_addCar_31 : decode cX5_addCar 31 = .ok (.getfield 25, 3) := decs_at DX5_addCar_0 18 rfl
theorem dX5_addCar_34 : decode cX5_addCar 34 = .ok (.aload_n 0, 1) := decs_at DX5_addCar_0 19 rfl
theorem dX5_addCar_35 : decode cX5_addCar 35 = .ok (.getfield 9, 3) := decs_at DX5_addCar_0 20 rfl
theorem dX5_addCar_38 : decode cX5_addCar 38 = .ok (.iload_n 2, 1) := decs_at DX5_addCar_0 21 rfl
theorem dX5_addCar_39 : decode cX5_addCar 39 = .ok (.iastore, 1) := decs_at DX5_addCar_0 22 rfl
theorem dX5_addCar_40 : decode cX5_addCar 40 = .ok (.aload_n 0, 1) := decs_at DX5_addCar_0 23 rfl
theorem DX5_addCar_24 : decs cX5_addCar [(41, .getfield 28, 3), (44, .aload_n 0, 1), (45, .getfield 9, 3), (48, .iconst 0, 1), (49, .iastore, 1), (50, .aload_n 0, 1), (51, .getfield 31, 3), (54, .aload_n 0, 1), (55, .getfield 9, 3), (58, .iconst 0, 1), (59, .iastore, 1), (60, .aload_n 0, 1), (61, .getfield 34, 3), (64, .aload_n 0, 1), (65, .getfield 9, 3), (68, .iconst 0, 1), (69, .iastore, 1), (70, .aload_n 0, 1), (71, .getfield 37, 3), (74, .aload_n 0, 1), (75, .getfield 9, 3), (78, .bipush 100, 2), (80, .iastore, 1), (81, .aload_n 0, 1)] := by unfold decs; decide +kernel
theorem dX5_addCar_41 : decode cX5_addCar 41 = .ok (.getfield 28, 3) := decs_at DX5_addCar_24 0 rfl
theorem dX5_addCar_44 : decode cX5_addCar 44 = .ok (.aload_n 0, 1) := decs_at DX5_addCar_24 1 rfl
theorem dX5_addCar_45 : decode cX5_addCar 45 = .ok (.getfield 9, 3) := decs_at DX5_addCar_24 2 rfl
theorem dX5_addCar_48 : decode cX5_addCar 48 = .ok (.iconst 0, 1) := decs_at DX5_addCar_24 3 rfl
theorem dX5_addCar_49 : decode cX5_addCar 49 = .ok (.iastore, 1) := decs_at DX5_addCar_24 4 rfl
theorem dX5_addCar_50 : decode cX5_addCar 50 = .ok (.aload_n 0, 1) := decs_at DX5_addCar_24 5 rfl
theorem dX5_addCar_51 : decode cX5_addCar 51 = .ok (.getfield 31, 3) := decs_at DX5_addCar_24 6 rfl
theorem dX5_addCar_54 : decode cX5_addCar 54 = .ok (.aload_n 0, 1) := decs_at DX5_addCar_24 7 rfl
theorem dX5_addCar_55 : decode cX5_addCar 55 = .ok (.getfield 9, 3) := decs_at DX5_addCar_24 8 rfl
theorem dX5_addCar_58 : decode cX5_addCar 58 = .ok (.iconst 0, 1) := decs_at DX5_addCar_24 9 rfl
theorem dX5_addCar_59 : decode cX5_addCar 59 = .ok (.iastore, 1) := decs_at DX5_addCar_24 10 rfl
theorem dX5_addCar_60 : decode cX5_addCar 60 = .ok (.aload_n 0, 1) := decs_at DX5_addCar_24 11 rfl
theorem dX5_addCar_61 : decode cX5_addCar 61 = .ok (.getfield 34, 3) := decs_at DX5_addCar_24 12 rfl
theorem dX5_addCar_64 : decode cX5_addCar 64 = .ok (.aload_n 0, 1) := decs_at DX5_addCar_24 13 rfl
theorem dX5_addCar_65 : decode cX5_addCar 65 = .ok (.getfield 9, 3) := decs_at DX5_addCar_24 14 rfl
theorem dX5_addCar_68 : decode cX5_addCar 68 = .ok (.iconst 0, 1) := decs_at DX5_addCar_24 15 rfl
theorem dX5_addCar_69 : decode cX5_addCar 69 = .ok (.iastore, 1) := decs_at DX5_addCar_24 16 rfl
theorem dX5_addCar_70 : decode cX5_addCar 70 = .ok (.aload_n 0, 1) := decs_at DX5_addCar_24 17 rfl
theorem dX5_addCar_71 : decode cX5_addCar 71 = .ok (.getfield 37, 3) := decs_at DX5_addCar_24 18 rfl
theorem dX5_addCar_74 : decode cX5_addCar 74 = .ok (.aload_n 0, 1) := decs_at DX5_addCar_24 19 rfl
theorem dX5_addCar_75 : decode cX5_addCar 75 = .ok (.getfield 9, 3) := decs_at DX5_addCar_24 20 rfl
theorem dX5_addCar_78 : decode cX5_addCar 78 = .ok (.bipush 100, 2) := decs_at DX5_addCar_24 21 rfl
theorem dX5_addCar_80 : decode cX5_addCar 80 = .ok (.iastore, 1) := decs_at DX5_addCar_24 22 rfl
theorem dX5_addCar_81 : decode cX5_addCar 81 = .ok (.aload_n 0, 1) := decs_at DX5_addCar_24 23 rfl
theorem DX5_addCar_48 : decs cX5_addCar [(82, .getfield 40, 3), (85, .aload_n 0, 1), (86, .getfield 9, 3), (89, .iconst 0, 1), (90, .iastore, 1), (91, .return_, 1)] := by unfold decs; decide +kernel
theorem dX5_addCar_82 : decode cX5_addCar 82 = .ok (.getfield 40, 3) := decs_at DX5_addCar_48 0 rfl
theorem dX5_addCar_85 : decode cX5_addCar 85 = .ok (.aload_n 0, 1) := decs_at DX5_addCar_48 1 rfl
theorem dX5_addCar_86 : decode cX5_addCar 86 = .ok (.getfield 9, 3) := decs_at DX5_addCar_48 2 rfl
theorem dX5_addCar_89 : decode cX5_addCar 89 = .ok (.iconst 0, 1) := decs_at DX5_addCar_48 3 rfl
theorem dX5_addCar_90 : decode cX5_addCar 90 = .ok (.iastore, 1) := decs_at DX5_addCar_48 4 rfl
theorem dX5_addCar_91 : decode cX5_addCar 91 = .ok (.return_, 1) := decs_at DX5_addCar_48 5 rfl
theorem DX5_fact_0 : decs cX5_fact [(0, .aload_n 0, 1), (1, .iload_n 1, 1), (2, .invokevirtual 43, 3), (5, .ifCond .ne 5, 3), (8, .iconst (-1), 1), (9, .ireturn, 1), (10, .iload_n 2, 1), (11, .tableswitch 90 0 6 #[41, 48, 55, 62, 69, 76, 83], 41), (52, .aload_n 0, 1), (53, .getfield 21, 3), (56, .iload_n 1, 1), (57, .iaload, 1), (58, .ireturn, 1), (59, .aload_n 0, 1), (60, .getfield 25, 3), (63, .iload_n 1, 1), (64, .iaload, 1), (65, .ireturn, 1), (66, .aload_n 0, 1), (67, .getfield 28, 3), (70, .iload_n 1, 1), (71, .iaload, 1), (72, .ireturn, 1), (73, .aload_n 0, 1)] := by unfold decs; decide +kernel
theorem dX5_fact_0 : decode cX5_fact 0 = .ok (.aload_n 0, 1) := decs_at DX5_fact_0 0 rfl
theorem dX5_fact_1 : decode cX5_fact 1 = .ok (.iload_n 1, 1) := decs_at DX5_fact_0 1 rfl
theorem dX5_fact_2 : decode cX5_fact 2 = .ok (.invokevirtual 43, 3) := decs_at DX5_fact_0 2 rfl
theorem dX5_fact_5 : decode cX5_fact 5 = .ok (.ifCond .ne 5, 3) := decs_at DX5_fact_0 3 rfl
theorem dX5_fact_8 : decode cX5_fact 8 = .ok (.iconst (-1), 1) := decs_at DX5_fact_0 4 rfl
theorem dX5_fact_9 : decode cX5_fact 9 = .ok (.ireturn, 1) := decs_at DX5_fact_0 5 rfl
theorem dX5_fact_10 : decode cX5_fact 10 = .ok (.iload_n 2, 1) := decs_at DX5_fact_0 6 rfl
theorem dX5_fact_11 : decode cX5_fact 11 = .ok (.tableswitch 90 0 6 #[41, 48, 55, 62, 69, 76, 83], 41) := decs_at DX5_fact_0 7 rfl
theorem dX5_fact_52 : decode cX5_fact 52 = .ok (.aload_n 0, 1) := decs_at DX5_fact_0 8 rfl
theorem dX5_fact_53 : decode cX5_fact 53 = .ok (.getfield 21, 3) := decs_at DX5_fact_0 9 rfl
theorem dX5_fact_56 : decode cX5_fact 56 = .ok (.iload_n 1, 1) := decs_at DX5_fact_0 10 rfl
theorem dX5_fact_57 : decode cX5_fact 57 = .ok (.iaload, 1) := decs_at DX5_fact_0 11 rfl
theorem dX5_fact_58 : decode cX5_fact 58 = .ok (.ireturn, 1) := decs_at DX5_fact_0 12 rfl
theorem dX5_fact_59 : decode cX5_fact 59 = .ok (.aload_n 0, 1) := decs_at DX5_fact_0 13 rfl
theorem dX5_fact_60 : decode cX5_fact 60 = .ok (.getfield 25, 3) := decs_at DX5_fact_0 14 rfl
theorem dX5_fact_63 : decode cX5_fact 63 = .ok (.iload_n 1, 1) := decs_at DX5_fact_0 15 rfl
theorem dX5_fact_64 : decode cX5_fact 64 = .ok (.iaload, 1) := decs_at DX5_fact_0 16 rfl
theorem dX5_fact_65 : decode cX5_fact 65 = .ok (.ireturn, 1) := decs_at DX5_fact_0 17 rfl
theorem dX5_fact_66 : decode cX5_fact 66 = .ok (.aload_n 0, 1) := decs_at DX5_fact_0 18 rfl
theorem dX5_fact_67 : decode cX5_fact 67 = .ok (.getfield 28, 3) := decs_at DX5_fact_0 19 rfl
theorem dX5_fact_70 : decode cX5_fact 70 = .ok (.iload_n 1, 1) := decs_at DX5_fact_0 20 rfl
theorem dX5_fact_71 : decode cX5_fact 71 = .ok (.iaload, 1) := decs_at DX5_fact_0 21 rfl
theorem dX5_fact_72 : decode cX5_fact 72 = .ok (.ireturn, 1) := decs_at DX5_fact_0 22 rfl
theorem dX5_fact_73 : decode cX5_fact 73 = .ok (.aload_n 0, 1) := decs_at DX5_fact_0 23 rfl
theorem DX5_fact_24 : decs cX5_fact [(74, .getfield 31, 3), (77, .iload_n 1, 1), (78, .iaload, 1), (79, .ireturn, 1), (80, .aload_n 0, 1), (81, .getfield 34, 3), (84, .iload_n 1, 1), (85, .iaload, 1), (86, .ireturn, 1), (87, .aload_n 0, 1), (88, .getfield 37, 3), (91, .iload_n 1, 1), (92, .iaload, 1), (93, .ireturn, 1), (94, .aload_n 0, 1), (95, .getfield 40, 3), (98, .iload_n 1, 1), (99, .iaload, 1), (100, .ireturn, 1), (101, .iconst (-1), 1), (102, .ireturn, 1)] := by unfold decs; decide +kernel
theorem dX5_fact_74 : decode cX5_fact 74 = .ok (.getfield 31, 3) := decs_at DX5_fact_24 0 rfl
theorem dX5_fact_77 : decode cX5_fact 77 = .ok (.iload_n 1, 1) := decs_at DX5_fact_24 1 rfl
theorem dX5_fact_78 : decode cX5_fact 78 = .ok (.iaload, 1) := decs_at DX5_fact_24 2 rfl
theorem dX5_fact_79 : decode cX5_fact 79 = .ok (.ireturn, 1) := decs_at DX5_fact_24 3 rfl
theorem dX5_fact_80 : decode cX5_fact 80 = .ok (.aload_n 0, 1) := decs_at DX5_fact_24 4 rfl
theorem dX5_fact_81 : decode cX5_fact 81 = .ok (.getfield 34, 3) := decs_at DX5_fact_24 5 rfl
theorem dX5_fact_84 : decode cX5_fact 84 = .ok (.iload_n 1, 1) := decs_at DX5_fact_24 6 rfl
theorem dX5_fact_85 : decode cX5_fact 85 = .ok (.iaload, 1) := decs_at DX5_fact_24 7 rfl
theorem dX5_fact_86 : decode cX5_fact 86 = .ok (.ireturn, 1) := decs_at DX5_fact_24 8 rfl
theorem dX5_fact_87 : decode cX5_fact 87 = .ok (.aload_n 0, 1) := decs_at DX5_fact_24 9 rfl
theorem dX5_fact_88 : decode cX5_fact 88 = .ok (.getfield 37, 3) := decs_at DX5_fact_24 10 rfl
theorem dX5_fact_91 : decode cX5_fact 91 = .ok (.iload_n 1, 1) := decs_at DX5_fact_24 11 rfl
theorem dX5_fact_92 : decode cX5_fact 92 = .ok (.iaload, 1) := decs_at DX5_fact_24 12 rfl
theorem dX5_fact_93 : decode cX5_fact 93 = .ok (.ireturn, 1) := decs_at DX5_fact_24 13 rfl
theorem dX5_fact_94 : decode cX5_fact 94 = .ok (.aload_n 0, 1) := decs_at DX5_fact_24 14 rfl
theorem dX5_fact_95 : decode cX5_fact 95 = .ok (.getfield 40, 3) := decs_at DX5_fact_24 15 rfl
theorem dX5_fact_98 : decode cX5_fact 98 = .ok (.iload_n 1, 1) := decs_at DX5_fact_24 16 rfl
theorem dX5_fact_99 : decode cX5_fact 99 = .ok (.iaload, 1) := decs_at DX5_fact_24 17 rfl
theorem dX5_fact_100 : decode cX5_fact 100 = .ok (.ireturn, 1) := decs_at DX5_fact_24 18 rfl
theorem dX5_fact_101 : decode cX5_fact 101 = .ok (.iconst (-1), 1) := decs_at DX5_fact_24 19 rfl
theorem dX5_fact_102 : decode cX5_fact 102 = .ok (.ireturn, 1) := decs_at DX5_fact_24 20 rfl
theorem DX5_setFact_0 : decs cX5_setFact [(0, .aload_n 0, 1), (1, .iload_n 1, 1), (2, .invokevirtual 43, 3), (5, .ifCond .ne 4, 3), (8, .return_, 1), (9, .iload_n 2, 1), (10, .tableswitch 84 2 6 #[34, 44, 54, 64, 74], 34), (44, .aload_n 0, 1), (45, .getfield 28, 3), (48, .iload_n 1, 1), (49, .iload_n 3, 1), (50, .iastore, 1), (51, .goto 43, 3), (54, .aload_n 0, 1), (55, .getfield 31, 3), (58, .iload_n 1, 1), (59, .iload_n 3, 1), (60, .iastore, 1), (61, .goto 33, 3), (64, .aload_n 0, 1), (65, .getfield 34, 3), (68, .iload_n 1, 1), (69, .iload_n 3, 1), (70, .iastore, 1)] := by unfold decs; decide +kernel
theorem dX5_setFact_0 : decode cX5_setFact 0 = .ok (.aload_n 0, 1) := decs_at DX5_setFact_0 0 rfl
theorem dX5_setFact_1 : decode cX5_setFact 1 = .ok (.iload_n 1, 1) := decs_at DX5_setFact_0 1 rfl
theorem dX5_setFact_2 : decode cX5_setFact 2 = .ok (.invokevirtual 43, 3) := decs_at DX5_setFact_0 2 rfl
theorem dX5_setFact_5 : decode cX5_setFact 5 = .ok (.ifCond .ne 4, 3) := decs_at DX5_setFact_0 3 rfl
theorem dX5_setFact_8 : decode cX5_setFact 8 = .ok (.return_, 1) := decs_at DX5_setFact_0 4 rfl
theorem dX5_setFact_9 : decode cX5_setFact 9 = .ok (.iload_n 2, 1) := decs_at DX5_setFact_0 5 rfl
theorem dX5_setFact_10 : decode cX5_setFact 10 = .ok (.tableswitch 84 2 6 #[34, 44, 54, 64, 74], 34) := decs_at DX5_setFact_0 6 rfl
theorem dX5_setFact_44 : decode cX5_setFact 44 = .ok (.aload_n 0, 1) := decs_at DX5_setFact_0 7 rfl
theorem dX5_setFact_45 : decode cX5_setFact 45 = .ok (.getfield 28, 3) := decs_at DX5_setFact_0 8 rfl
theorem dX5_setFact_48 : decode cX5_setFact 48 = .ok (.iload_n 1, 1) := decs_at DX5_setFact_0 9 rfl
theorem dX5_setFact_49 : decode cX5_setFact 49 = .ok (.iload_n 3, 1) := decs_at DX5_setFact_0 10 rfl
theorem dX5_setFact_50 : decode cX5_setFact 50 = .ok (.iastore, 1) := decs_at DX5_setFact_0 11 rfl
theorem dX5_setFact_51 : decode cX5_setFact 51 = .ok (.goto 43, 3) := decs_at DX5_setFact_0 12 rfl
theorem dX5_setFact_54 : decode cX5_setFact 54 = .ok (.aload_n 0, 1) := decs_at DX5_setFact_0 13 rfl
theorem dX5_setFact_55 : decode cX5_setFact 55 = .ok (.getfield 31, 3) := decs_at DX5_setFact_0 14 rfl
theorem dX5_setFact_58 : decode cX5_setFact 58 = .ok (.iload_n 1, 1) := decs_at DX5_setFact_0 15 rfl
theorem dX5_setFact_59 : decode cX5_setFact 59 = .ok (.iload_n 3, 1) := decs_at DX5_setFact_0 16 rfl
theorem dX5_setFact_60 : decode cX5_setFact 60 = .ok (.iastore, 1) := decs_at DX5_setFact_0 17 rfl
theorem dX5_setFact_61 : decode cX5_setFact 61 = .ok (.goto 33, 3) := decs_at DX5_setFact_0 18 rfl
theorem dX5_setFact_64 : decode cX5_setFact 64 = .ok (.aload_n 0, 1) := decs_at DX5_setFact_0 19 rfl
theorem dX5_setFact_65 : decode cX5_setFact 65 = .ok (.getfield 34, 3) := decs_at DX5_setFact_0 20 rfl
theorem dX5_setFact_68 : decode cX5_setFact 68 = .ok (.iload_n 1, 1) := decs_at DX5_setFact_0 21 rfl
theorem dX5_setFact_69 : decode cX5_setFact 69 = .ok (.iload_n 3, 1) := decs_at DX5_setFact_0 22 rfl
theorem dX5_setFact_70 : decode cX5_setFact 70 = .ok (.iastore, 1) := decs_at DX5_setFact_0 23 rfl
theorem DX5_setFact_24 : decs cX5_setFact [(71, .goto 23, 3), (74, .aload_n 0, 1), (75, .getfield 37, 3), (78, .iload_n 1, 1), (79, .iload_n 3, 1), (80, .iastore, 1), (81, .goto 13, 3), (84, .aload_n 0, 1), (85, .getfield 40, 3), (88, .iload_n 1, 1), (89, .iload_n 3, 1), (90, .iastore, 1), (91, .goto 3, 3), (94, .return_, 1)] := by unfold decs; decide +kernel
theorem dX5_setFact_71 : decode cX5_setFact 71 = .ok (.goto 23, 3) := decs_at DX5_setFact_24 0 rfl
theorem dX5_setFact_74 : decode cX5_setFact 74 = .ok (.aload_n 0, 1) := decs_at DX5_setFact_24 1 rfl
theorem dX5_setFact_75 : decode cX5_setFact 75 = .ok (.getfield 37, 3) := decs_at DX5_setFact_24 2 rfl
theorem dX5_setFact_78 : decode cX5_setFact 78 = .ok (.iload_n 1, 1) := decs_at DX5_setFact_24 3 rfl
theorem dX5_setFact_79 : decode cX5_setFact 79 = .ok (.iload_n 3, 1) := decs_at DX5_setFact_24 4 rfl
theorem dX5_setFact_80 : decode cX5_setFact 80 = .ok (.iastore, 1) := decs_at DX5_setFact_24 5 rfl
theorem dX5_setFact_81 : decode cX5_setFact 81 = .ok (.goto 13, 3) := decs_at DX5_setFact_24 6 rfl
theorem dX5_setFact_84 : decode cX5_setFact 84 = .ok (.aload_n 0, 1) := decs_at DX5_setFact_24 7 rfl
theorem dX5_setFact_85 : decode cX5_setFact 85 = .ok (.getfield 40, 3) := decs_at DX5_setFact_24 8 rfl
theorem dX5_setFact_88 : decode cX5_setFact 88 = .ok (.iload_n 1, 1) := decs_at DX5_setFact_24 9 rfl
theorem dX5_setFact_89 : decode cX5_setFact 89 = .ok (.iload_n 3, 1) := decs_at DX5_setFact_24 10 rfl
theorem dX5_setFact_90 : decode cX5_setFact 90 = .ok (.iastore, 1) := decs_at DX5_setFact_24 11 rfl
theorem dX5_setFact_91 : decode cX5_setFact 91 = .ok (.goto 3, 3) := decs_at DX5_setFact_24 12 rfl
theorem dX5_setFact_94 : decode cX5_setFact 94 = .ok (.return_, 1) := decs_at DX5_setFact_24 13 rfl
theorem DX5_copyFrom_0 : decs cX5_copyFrom [(0, .aload_n 0, 1), (1, .aload_n 1, 1), (2, .getfield 9, 3), (5, .putfield 9, 3), (8, .aload_n 0, 1), (9, .aload_n 1, 1), (10, .getfield 15, 3), (13, .putfield 15, 3), (16, .aload_n 0, 1), (17, .aload_n 1, 1), (18, .getfield 18, 3), (21, .putfield 18, 3), (24, .iconst 1, 1), (25, .istore_n 2, 1), (26, .iload_n 2, 1), (27, .aload_n 0, 1), (28, .getfield 9, 3), (31, .if_icmp .gt 22, 3), (34, .iload_n 2, 1), (35, .bipush 17, 2), (37, .if_icmp .ge 16, 3), (40, .aload_n 0, 1), (41, .iload_n 2, 1), (42, .aload_n 1, 1)] := by unfold decs; decide +kernel
theorem dX5_copyFrom_0 : decode cX5_copyFrom 0 = .ok (.aload_n 0, 1) := decs_at DX5_copyFrom_0 0 rfl
theorem dX5_copyFrom_1 : decode cX5_copyFrom 1 = .ok (.aload_n 1, 1) := decs_at DX5_copyFrom_0 1 rfl
theorem dX5_copyFrom_2 : decode cX5_copyFrom 2 = .ok (.getfield 9, 3) := decs_at DX5_copyFrom_0 2 rfl
theorem dX5_copyFrom_5 : decode cX5_copyFrom 5 = .ok (.putfield 9, 3) := decs_at DX5_copyFrom_0 3 rfl
theorem dX5_copyFrom_8 : decode cX5_copyFrom 8 = .ok (.aload_n 0, 1) := decs_at DX5_copyFrom_0 4 rfl
theorem dX5_copyFrom_9 : decode cX5_copyFrom 9 = .ok (.aload_n 1, 1) := decs_at DX5_copyFrom_0 5 rfl
theorem dX5_copyFrom_10 : decode cX5_copyFrom 10 = .ok (.getfield 15, 3) := decs_at DX5_copyFrom_0 6 rfl
theorem dX5_copyFrom_13 : decode cX5_copyFrom 13 = .ok (.putfield 15, 3) := decs_at DX5_copyFrom_0 7 rfl
theorem dX5_copyFrom_16 : decode cX5_copyFrom 16 = .ok (.aload_n 0, 1) := decs_at DX5_copyFrom_0 8 rfl
theorem dX5_copyFrom_17 : decode cX5_copyFrom 17 = .ok (.aload_n 1, 1) := decs_at DX5_copyFrom_0 9 rfl
theorem dX5_copyFrom_18 : decode cX5_copyFrom 18 = .ok (.getfield 18, 3) := decs_at DX5_copyFrom_0 10 rfl
theorem dX5_copyFrom_21 : decode cX5_copyFrom 21 = .ok (.putfield 18, 3) := decs_at DX5_copyFrom_0 11 rfl
theorem dX5_copyFrom_24 : decode cX5_copyFrom 24 = .ok (.iconst 1, 1) := decs_at DX5_copyFrom_0 12 rfl
theorem dX5_copyFrom_25 : decode cX5_copyFrom 25 = .ok (.istore_n 2, 1) := decs_at DX5_copyFrom_0 13 rfl
theorem dX5_copyFrom_26 : decode cX5_copyFrom 26 = .ok (.iload_n 2, 1) := decs_at DX5_copyFrom_0 14 rfl
theorem dX5_copyFrom_27 : decode cX5_copyFrom 27 = .ok (.aload_n 0, 1) := decs_at DX5_copyFrom_0 15 rfl
theorem dX5_copyFrom_28 : decode cX5_copyFrom 28 = .ok (.getfield 9, 3) := decs_at DX5_copyFrom_0 16 rfl
theorem dX5_copyFrom_31 : decode cX5_copyFrom 31 = .ok (.if_icmp .gt 22, 3) := decs_at DX5_copyFrom_0 17 rfl
theorem dX5_copyFrom_34 : decode cX5_copyFrom 34 = .ok (.iload_n 2, 1) := decs_at DX5_copyFrom_0 18 rfl
theorem dX5_copyFrom_35 : decode cX5_copyFrom 35 = .ok (.bipush 17, 2) := decs_at DX5_copyFrom_0 19 rfl
theorem dX5_copyFrom_37 : decode cX5_copyFrom 37 = .ok (.if_icmp .ge 16, 3) := decs_at DX5_copyFrom_0 20 rfl
theorem dX5_copyFrom_40 : decode cX5_copyFrom 40 = .ok (.aload_n 0, 1) := decs_at DX5_copyFrom_0 21 rfl
theorem dX5_copyFrom_41 : decode cX5_copyFrom 41 = .ok (.iload_n 2, 1) := decs_at DX5_copyFrom_0 22 rfl
theorem dX5_copyFrom_42 : decode cX5_copyFrom 42 = .ok (.aload_n 1, 1) := decs_at DX5_copyFrom_0 23 rfl
theorem DX5_copyFrom_24 : decs cX5_copyFrom [(43, .iload_n 2, 1), (44, .invokevirtual 47, 3), (47, .iinc 2 1, 3), (50, .goto (-24), 3), (53, .return_, 1)] := by unfold decs; decide +kernel
theorem dX5_copyFrom_43 : decode cX5_copyFrom 43 = .ok (.iload_n 2, 1) := decs_at DX5_copyFrom_24 0 rfl
theorem dX5_copyFrom_44 : decode cX5_copyFrom 44 = .ok (.invokevirtual 47, 3) := decs_at DX5_copyFrom_24 1 rfl
theorem dX5_copyFrom_47 : decode cX5_copyFrom 47 = .ok (.iinc 2 1, 3) := decs_at DX5_copyFrom_24 2 rfl
theorem dX5_copyFrom_50 : decode cX5_copyFrom 50 = .ok (.goto (-24), 3) := decs_at DX5_copyFrom_24 3 rfl
theorem dX5_copyFrom_53 : decode cX5_copyFrom 53 = .ok (.return_, 1) := decs_at DX5_copyFrom_24 4 rfl
theorem DX5_takeCar_0 : decs cX5_takeCar [(0, .aload_n 0, 1), (1, .iload_n 1, 1), (2, .invokevirtual 43, 3), (5, .ifCond .eq 11, 3), (8, .aload_n 2, 1), (9, .iload_n 3, 1), (10, .invokevirtual 43, 3), (13, .ifCond .ne 4, 3), (16, .return_, 1), (17, .aload_n 0, 1), (18, .getfield 21, 3), (21, .iload_n 1, 1), (22, .aload_n 2, 1), (23, .getfield 21, 3), (26, .iload_n 3, 1), (27, .iaload, 1), (28, .iastore, 1), (29, .aload_n 0, 1), (30, .getfield 25, 3), (33, .iload_n 1, 1), (34, .aload_n 2, 1), (35, .getfield 25, 3), (38, .iload_n 3, 1), (39, .iaload, 1)] := by unfold decs; decide +kernel
theorem dX5_takeCar_0 : decode cX5_takeCar 0 = .ok (.aload_n 0, 1) := decs_at DX5_takeCar_0 0 rfl
theorem dX5_takeCar_1 : decode cX5_takeCar 1 = .ok (.iload_n 1, 1) := decs_at DX5_takeCar_0 1 rfl
theorem dX5_takeCar_2 : decode cX5_takeCar 2 = .ok (.invokevirtual 43, 3) := decs_at DX5_takeCar_0 2 rfl
theorem dX5_takeCar_5 : decode cX5_takeCar 5 = .ok (.ifCond .eq 11, 3) := decs_at DX5_takeCar_0 3 rfl
theorem dX5_takeCar_8 : decode cX5_takeCar 8 = .ok (.aload_n 2, 1) := decs_at DX5_takeCar_0 4 rfl
theorem dX5_takeCar_9 : decode cX5_takeCar 9 = .ok (.iload_n 3, 1) := decs_at DX5_takeCar_0 5 rfl
theorem dX5_takeCar_10 : decode cX5_takeCar 10 = .ok (.invokevirtual 43, 3) := decs_at DX5_takeCar_0 6 rfl
theorem dX5_takeCar_13 : decode cX5_takeCar 13 = .ok (.ifCond .ne 4, 3) := decs_at DX5_takeCar_0 7 rfl
theorem dX5_takeCar_16 : decode cX5_takeCar 16 = .ok (.return_, 1) := decs_at DX5_takeCar_0 8 rfl
theorem dX5_takeCar_17 : decode cX5_takeCar 17 = .ok (.aload_n 0, 1) := decs_at DX5_takeCar_0 9 rfl
theorem dX5_takeCar_18 : decode cX5_takeCar 18 = .ok (.getfield 21, 3) := decs_at DX5_takeCar_0 10 rfl
theorem dX5_takeCar_21 : decode cX5_takeCar 21 = .ok (.iload_n 1, 1) := decs_at DX5_takeCar_0 11 rfl
theorem dX5_takeCar_22 : decode cX5_takeCar 22 = .ok (.aload_n 2, 1) := decs_at DX5_takeCar_0 12 rfl
theorem dX5_takeCar_23 : decode cX5_takeCar 23 = .ok (.getfield 21, 3) := decs_at DX5_takeCar_0 13 rfl
theorem dX5_takeCar_26 : decode cX5_takeCar 26 = .ok (.iload_n 3, 1) := decs_at DX5_takeCar_0 14 rfl
theorem dX5_takeCar_27 : decode cX5_takeCar 27 = .ok (.iaload, 1) := decs_at DX5_takeCar_0 15 rfl
theorem dX5_takeCar_28 : decode cX5_takeCar 28 = .ok (.iastore, 1) := decs_at DX5_takeCar_0 16 rfl
theorem dX5_takeCar_29 : decode cX5_takeCar 29 = .ok (.aload_n 0, 1) := decs_at DX5_takeCar_0 17 rfl
theorem dX5_takeCar_30 : decode cX5_takeCar 30 = .ok (.getfield 25, 3) := decs_at DX5_takeCar_0 18 rfl
theorem dX5_takeCar_33 : decode cX5_takeCar 33 = .ok (.iload_n 1, 1) := decs_at DX5_takeCar_0 19 rfl
theorem dX5_takeCar_34 : decode cX5_takeCar 34 = .ok (.aload_n 2, 1) := decs_at DX5_takeCar_0 20 rfl
theorem dX5_takeCar_35 : decode cX5_takeCar 35 = .ok (.getfield 25, 3) := decs_at DX5_takeCar_0 21 rfl
theorem dX5_takeCar_38 : decode cX5_takeCar 38 = .ok (.iload_n 3, 1) := decs_at DX5_takeCar_0 22 rfl
theorem dX5_takeCar_39 : decode cX5_takeCar 39 = .ok (.iaload, 1) := decs_at DX5_takeCar_0 23 rfl
theorem DX5_takeCar_24 : decs cX5_takeCar [(40, .iastore, 1), (41, .aload_n 0, 1), (42, .getfield 28, 3), (45, .iload_n 1, 1), (46, .aload_n 2, 1), (47, .getfield 28, 3), (50, .iload_n 3, 1), (51, .iaload, 1), (52, .iastore, 1), (53, .aload_n 0, 1), (54, .getfield 31, 3), (57, .iload_n 1, 1), (58, .aload_n 2, 1), (59, .getfield 31, 3), (62, .iload_n 3, 1), (63, .iaload, 1), (64, .iastore, 1), (65, .aload_n 0, 1), (66, .getfield 34, 3), (69, .iload_n 1, 1), (70, .aload_n 2, 1), (71, .getfield 34, 3), (74, .iload_n 3, 1), (75, .iaload, 1)] := by unfold decs; decide +kernel
theorem dX5_takeCar_40 : decode cX5_takeCar 40 = .ok (.iastore, 1) := decs_at DX5_takeCar_24 0 rfl
theorem dX5_takeCar_41 : decode cX5_takeCar 41 = .ok (.aload_n 0, 1) := decs_at DX5_takeCar_24 1 rfl
theorem dX5_takeCar_42 : decode cX5_takeCar 42 = .ok (.getfield 28, 3) := decs_at DX5_takeCar_24 2 rfl
theorem dX5_takeCar_45 : decode cX5_takeCar 45 = .ok (.iload_n 1, 1) := decs_at DX5_takeCar_24 3 rfl
theorem dX5_takeCar_46 : decode cX5_takeCar 46 = .ok (.aload_n 2, 1) := decs_at DX5_takeCar_24 4 rfl
theorem dX5_takeCar_47 : decode cX5_takeCar 47 = .ok (.getfield 28, 3) := decs_at DX5_takeCar_24 5 rfl
theorem dX5_takeCar_50 : decode cX5_takeCar 50 = .ok (.iload_n 3, 1) := decs_at DX5_takeCar_24 6 rfl
theorem dX5_takeCar_51 : decode cX5_takeCar 51 = .ok (.iaload, 1) := decs_at DX5_takeCar_24 7 rfl
theorem dX5_takeCar_52 : decode cX5_takeCar 52 = .ok (.iastore, 1) := decs_at DX5_takeCar_24 8 rfl
theorem dX5_takeCar_53 : decode cX5_takeCar 53 = .ok (.aload_n 0, 1) := decs_at DX5_takeCar_24 9 rfl
theorem dX5_takeCar_54 : decode cX5_takeCar 54 = .ok (.getfield 31, 3) := decs_at DX5_takeCar_24 10 rfl
theorem dX5_takeCar_57 : decode cX5_takeCar 57 = .ok (.iload_n 1, 1) := decs_at DX5_takeCar_24 11 rfl
theorem dX5_takeCar_58 : decode cX5_takeCar 58 = .ok (.aload_n 2, 1) := decs_at DX5_takeCar_24 12 rfl
theorem dX5_takeCar_59 : decode cX5_takeCar 59 = .ok (.getfield 31, 3) := decs_at DX5_takeCar_24 13 rfl
theorem dX5_takeCar_62 : decode cX5_takeCar 62 = .ok (.iload_n 3, 1) := decs_at DX5_takeCar_24 14 rfl
theorem dX5_takeCar_63 : decode cX5_takeCar 63 = .ok (.iaload, 1) := decs_at DX5_takeCar_24 15 rfl
theorem dX5_takeCar_64 : decode cX5_takeCar 64 = .ok (.iastore, 1) := decs_at DX5_takeCar_24 16 rfl
theorem dX5_takeCar_65 : decode cX5_takeCar 65 = .ok (.aload_n 0, 1) := decs_at DX5_takeCar_24 17 rfl
theorem dX5_takeCar_66 : decode cX5_takeCar 66 = .ok (.getfield 34, 3) := decs_at DX5_takeCar_24 18 rfl
theorem dX5_takeCar_69 : decode cX5_takeCar 69 = .ok (.iload_n 1, 1) := decs_at DX5_takeCar_24 19 rfl
theorem dX5_takeCar_70 : decode cX5_takeCar 70 = .ok (.aload_n 2, 1) := decs_at DX5_takeCar_24 20 rfl
theorem dX5_takeCar_71 : decode cX5_takeCar 71 = .ok (.getfield 34, 3) := decs_at DX5_takeCar_24 21 rfl
theorem dX5_takeCar_74 : decode cX5_takeCar 74 = .ok (.iload_n 3, 1) := decs_at DX5_takeCar_24 22 rfl
theorem dX5_takeCar_75 : decode cX5_takeCar 75 = .ok (.iaload, 1) := decs_at DX5_takeCar_24 23 rfl
theorem DX5_takeCar_48 : decs cX5_takeCar [(76, .iastore, 1), (77, .aload_n 0, 1), (78, .getfield 37, 3), (81, .iload_n 1, 1), (82, .aload_n 2, 1), (83, .getfield 37, 3), (86, .iload_n 3, 1), (87, .iaload, 1), (88, .iastore, 1), (89, .aload_n 0, 1), (90, .getfield 40, 3), (93, .iload_n 1, 1), (94, .aload_n 2, 1), (95, .getfield 40, 3), (98, .iload_n 3, 1), (99, .iaload, 1), (100, .iastore, 1), (101, .return_, 1)] := by unfold decs; decide +kernel
theorem dX5_takeCar_76 : decode cX5_takeCar 76 = .ok (.iastore, 1) := decs_at DX5_takeCar_48 0 rfl
theorem dX5_takeCar_77 : decode cX5_takeCar 77 = .ok (.aload_n 0, 1) := decs_at DX5_takeCar_48 1 rfl
theorem dX5_takeCar_78 : decode cX5_takeCar 78 = .ok (.getfield 37, 3) := decs_at DX5_takeCar_48 2 rfl
theorem dX5_takeCar_81 : decode cX5_takeCar 81 = .ok (.iload_n 1, 1) := decs_at DX5_takeCar_48 3 rfl
theorem dX5_takeCar_82 : decode cX5_takeCar 82 = .ok (.aload_n 2, 1) := decs_at DX5_takeCar_48 4 rfl
theorem dX5_takeCar_83 : decode cX5_takeCar 83 = .ok (.getfield 37, 3) := decs_at DX5_takeCar_48 5 rfl
theorem dX5_takeCar_86 : decode cX5_takeCar 86 = .ok (.iload_n 3, 1) := decs_at DX5_takeCar_48 6 rfl
theorem dX5_takeCar_87 : decode cX5_takeCar 87 = .ok (.iaload, 1) := decs_at DX5_takeCar_48 7 rfl
theorem dX5_takeCar_88 : decode cX5_takeCar 88 = .ok (.iastore, 1) := decs_at DX5_takeCar_48 8 rfl
theorem dX5_takeCar_89 : decode cX5_takeCar 89 = .ok (.aload_n 0, 1) := decs_at DX5_takeCar_48 9 rfl
theorem dX5_takeCar_90 : decode cX5_takeCar 90 = .ok (.getfield 40, 3) := decs_at DX5_takeCar_48 10 rfl
theorem dX5_takeCar_93 : decode cX5_takeCar 93 = .ok (.iload_n 1, 1) := decs_at DX5_takeCar_48 11 rfl
theorem dX5_takeCar_94 : decode cX5_takeCar 94 = .ok (.aload_n 2, 1) := decs_at DX5_takeCar_48 12 rfl
theorem dX5_takeCar_95 : decode cX5_takeCar 95 = .ok (.getfield 40, 3) := decs_at DX5_takeCar_48 13 rfl
theorem dX5_takeCar_98 : decode cX5_takeCar 98 = .ok (.iload_n 3, 1) := decs_at DX5_takeCar_48 14 rfl
theorem dX5_takeCar_99 : decode cX5_takeCar 99 = .ok (.iaload, 1) := decs_at DX5_takeCar_48 15 rfl
theorem dX5_takeCar_100 : decode cX5_takeCar 100 = .ok (.iastore, 1) := decs_at DX5_takeCar_48 16 rfl
theorem dX5_takeCar_101 : decode cX5_takeCar 101 = .ok (.return_, 1) := decs_at DX5_takeCar_48 17 rfl
theorem DX5_wholeWeight_0 : decs cX5_wholeWeight [(0, .bipush 90, 2), (2, .istore_n 1, 1), (3, .iconst 1, 1), (4, .istore_n 2, 1), (5, .iload_n 2, 1), (6, .aload_n 0, 1), (7, .getfield 9, 3), (10, .if_icmp .gt 24, 3), (13, .iload_n 2, 1), (14, .bipush 17, 2), (16, .if_icmp .ge 18, 3), (19, .iload_n 1, 1), (20, .aload_n 0, 1), (21, .getfield 25, 3), (24, .iload_n 2, 1), (25, .iaload, 1), (26, .iadd, 1), (27, .istore_n 1, 1), (28, .iinc 2 1, 3), (31, .goto (-26), 3), (34, .iload_n 1, 1), (35, .ireturn, 1)] := by unfold decs; decide +kernel
theorem dX5_wholeWeight_0 : decode cX5_wholeWeight 0 = .ok (.bipush 90, 2) := decs_at DX5_wholeWeight_0 0 rfl
theorem dX5_wholeWeight_2 : decode cX5_wholeWeight 2 = .ok (.istore_n 1, 1) := decs_at DX5_wholeWeight_0 1 rfl
theorem dX5_wholeWeight_3 : decode cX5_wholeWeight 3 = .ok (.iconst 1, 1) := decs_at DX5_wholeWeight_0 2 rfl
theorem dX5_wholeWeight_4 : decode cX5_wholeWeight 4 = .ok (.istore_n 2, 1) := decs_at DX5_wholeWeight_0 3 rfl
theorem dX5_wholeWeight_5 : decode cX5_wholeWeight 5 = .ok (.iload_n 2, 1) := decs_at DX5_wholeWeight_0 4 rfl
theorem dX5_wholeWeight_6 : decode cX5_wholeWeight 6 = .ok (.aload_n 0, 1) := decs_at DX5_wholeWeight_0 5 rfl
theorem dX5_wholeWeight_7 : decode cX5_wholeWeight 7 = .ok (.getfield 9, 3) := decs_at DX5_wholeWeight_0 6 rfl
theorem dX5_wholeWeight_10 : decode cX5_wholeWeight 10 = .ok (.if_icmp .gt 24, 3) := decs_at DX5_wholeWeight_0 7 rfl
theorem dX5_wholeWeight_13 : decode cX5_wholeWeight 13 = .ok (.iload_n 2, 1) := decs_at DX5_wholeWeight_0 8 rfl
theorem dX5_wholeWeight_14 : decode cX5_wholeWeight 14 = .ok (.bipush 17, 2) := decs_at DX5_wholeWeight_0 9 rfl
theorem dX5_wholeWeight_16 : decode cX5_wholeWeight 16 = .ok (.if_icmp .ge 18, 3) := decs_at DX5_wholeWeight_0 10 rfl
theorem dX5_wholeWeight_19 : decode cX5_wholeWeight 19 = .ok (.iload_n 1, 1) := decs_at DX5_wholeWeight_0 11 rfl
theorem dX5_wholeWeight_20 : decode cX5_wholeWeight 20 = .ok (.aload_n 0, 1) := decs_at DX5_wholeWeight_0 12 rfl
theorem dX5_wholeWeight_21 : decode cX5_wholeWeight 21 = .ok (.getfield 25, 3) := decs_at DX5_wholeWeight_0 13 rfl
theorem dX5_wholeWeight_24 : decode cX5_wholeWeight 24 = .ok (.iload_n 2, 1) := decs_at DX5_wholeWeight_0 14 rfl
theorem dX5_wholeWeight_25 : decode cX5_wholeWeight 25 = .ok (.iaload, 1) := decs_at DX5_wholeWeight_0 15 rfl
theorem dX5_wholeWeight_26 : decode cX5_wholeWeight 26 = .ok (.iadd, 1) := decs_at DX5_wholeWeight_0 16 rfl
theorem dX5_wholeWeight_27 : decode cX5_wholeWeight 27 = .ok (.istore_n 1, 1) := decs_at DX5_wholeWeight_0 17 rfl
theorem dX5_wholeWeight_28 : decode cX5_wholeWeight 28 = .ok (.iinc 2 1, 3) := decs_at DX5_wholeWeight_0 18 rfl
theorem dX5_wholeWeight_31 : decode cX5_wholeWeight 31 = .ok (.goto (-26), 3) := decs_at DX5_wholeWeight_0 19 rfl
theorem dX5_wholeWeight_34 : decode cX5_wholeWeight 34 = .ok (.iload_n 1, 1) := decs_at DX5_wholeWeight_0 20 rfl
theorem dX5_wholeWeight_35 : decode cX5_wholeWeight 35 = .ok (.ireturn, 1) := decs_at DX5_wholeWeight_0 21 rfl
theorem DX0_start_0 : decs cX0_start [(0, .iconst 0, 1), (1, .istore_n 2, 1), (2, .iload_n 2, 1), (3, .bipush 17, 2), (5, .if_icmp .ge 36, 3), (8, .aload_n 0, 1), (9, .getfield 9, 3), (12, .iload_n 2, 1), (13, .aload_n 1, 1), (14, .getfield 44, 3), (17, .iastore, 1), (18, .aload_n 0, 1), (19, .getfield 18, 3), (22, .iload_n 2, 1), (23, .aload_n 1, 1), (24, .getfield 44, 3), (27, .iastore, 1), (28, .aload_n 0, 1), (29, .getfield 21, 3), (32, .iload_n 2, 1), (33, .iconst 0, 1), (34, .iastore, 1), (35, .iinc 2 1, 3), (38, .goto (-36), 3)] := by unfold decs; decide +kernel
theorem dX0_start_0 : decode cX0_start 0 = .ok (.iconst 0, 1) := decs_at DX0_start_0 0 rfl
theorem dX0_start_1 : decode cX0_start 1 = .ok (.istore_n 2, 1) := decs_at DX0_start_0 1 rfl
theorem dX0_start_2 : decode cX0_start 2 = .ok (.iload_n 2, 1) := decs_at DX0_start_0 2 rfl
theorem dX0_start_3 : decode cX0_start 3 = .ok (.bipush 17, 2) := decs_at DX0_start_0 3 rfl
theorem dX0_start_5 : decode cX0_start 5 = .ok (.if_icmp .ge 36, 3) := decs_at DX0_start_0 4 rfl
theorem dX0_start_8 : decode cX0_start 8 = .ok (.aload_n 0, 1) := decs_at DX0_start_0 5 rfl
theorem dX0_start_9 : decode cX0_start 9 = .ok (.getfield 9, 3) := decs_at DX0_start_0 6 rfl
theorem dX0_start_12 : decode cX0_start 12 = .ok (.iload_n 2, 1) := decs_at DX0_start_0 7 rfl
theorem dX0_start_13 : decode cX0_start 13 = .ok (.aload_n 1, 1) := decs_at DX0_start_0 8 rfl
theorem dX0_start_14 : decode cX0_start 14 = .ok (.getfield 44, 3) := decs_at DX0_start_0 9 rfl
theorem dX0_start_17 : decode cX0_start 17 = .ok (.iastore, 1) := decs_at DX0_start_0 10 rfl
theorem dX0_start_18 : decode cX0_start 18 = .ok (.aload_n 0, 1) := decs_at DX0_start_0 11 rfl
theorem dX0_start_19 : decode cX0_start 19 = .ok (.getfield 18, 3) := decs_at DX0_start_0 12 rfl
theorem dX0_start_22 : decode cX0_start 22 = .ok (.iload_n 2, 1) := decs_at DX0_start_0 13 rfl
theorem dX0_start_23 : decode cX0_start 23 = .ok (.aload_n 1, 1) := decs_at DX0_start_0 14 rfl
theorem dX0_start_24 : decode cX0_start 24 = .ok (.getfield 44, 3) := decs_at DX0_start_0 15 rfl
theorem dX0_start_27 : decode cX0_start 27 = .ok (.iastore, 1) := decs_at DX0_start_0 16 rfl
theorem dX0_start_28 : decode cX0_start 28 = .ok (.aload_n 0, 1) := decs_at DX0_start_0 17 rfl
theorem dX0_start_29 : decode cX0_start 29 = .ok (.getfield 21, 3) := decs_at DX0_start_0 18 rfl
theorem dX0_start_32 : decode cX0_start 32 = .ok (.iload_n 2, 1) := decs_at DX0_start_0 19 rfl
theorem dX0_start_33 : decode cX0_start 33 = .ok (.iconst 0, 1) := decs_at DX0_start_0 20 rfl
theorem dX0_start_34 : decode cX0_start 34 = .ok (.iastore, 1) := decs_at DX0_start_0 21 rfl
theorem dX0_start_35 : decode cX0_start 35 = .ok (.iinc 2 1, 3) := decs_at DX0_start_0 22 rfl
theorem dX0_start_38 : decode cX0_start 38 = .ok (.goto (-36), 3) := decs_at DX0_start_0 23 rfl
theorem DX0_start_24 : decs cX0_start [(41, .aload_n 0, 1), (42, .iconst 0, 1), (43, .putfield 24, 3), (46, .aload_n 0, 1), (47, .iconst 0, 1), (48, .putfield 28, 3), (51, .aload_n 0, 1), (52, .iconst 0, 1), (53, .putfield 31, 3), (56, .aload_n 0, 1), (57, .iconst (-1), 1), (58, .putfield 35, 3), (61, .aload_n 0, 1), (62, .iconst 0, 1), (63, .putfield 38, 3), (66, .aload_n 0, 1), (67, .iconst 0, 1), (68, .putfield 41, 3), (71, .return_, 1)] := by unfold decs; decide +kernel
theorem dX0_start_41 : decode cX0_start 41 = .ok (.aload_n 0, 1) := decs_at DX0_start_24 0 rfl
theorem dX0_start_42 : decode cX0_start 42 = .ok (.iconst 0, 1) := decs_at DX0_start_24 1 rfl
theorem dX0_start_43 : decode cX0_start 43 = .ok (.putfield 24, 3) := decs_at DX0_start_24 2 rfl
theorem dX0_start_46 : decode cX0_start 46 = .ok (.aload_n 0, 1) := decs_at DX0_start_24 3 rfl
theorem dX0_start_47 : decode cX0_start 47 = .ok (.iconst 0, 1) := decs_at DX0_start_24 4 rfl
theorem dX0_start_48 : decode cX0_start 48 = .ok (.putfield 28, 3) := decs_at DX0_start_24 5 rfl
theorem dX0_start_51 : decode cX0_start 51 = .ok (.aload_n 0, 1) := decs_at DX0_start_24 6 rfl
theorem dX0_start_52 : decode cX0_start 52 = .ok (.iconst 0, 1) := decs_at DX0_start_24 7 rfl
theorem dX0_start_53 : decode cX0_start 53 = .ok (.putfield 31, 3) := decs_at DX0_start_24 8 rfl
theorem dX0_start_56 : decode cX0_start 56 = .ok (.aload_n 0, 1) := decs_at DX0_start_24 9 rfl
theorem dX0_start_57 : decode cX0_start 57 = .ok (.iconst (-1), 1) := decs_at DX0_start_24 10 rfl
theorem dX0_start_58 : decode cX0_start 58 = .ok (.putfield 35, 3) := decs_at DX0_start_24 11 rfl
theorem dX0_start_61 : decode cX0_start 61 = .ok (.aload_n 0, 1) := decs_at DX0_start_24 12 rfl
theorem dX0_start_62 : decode cX0_start 62 = .ok (.iconst 0, 1) := decs_at DX0_start_24 13 rfl
theorem dX0_start_63 : decode cX0_start 63 = .ok (.putfield 38, 3) := decs_at DX0_start_24 14 rfl
theorem dX0_start_66 : decode cX0_start 66 = .ok (.aload_n 0, 1) := decs_at DX0_start_24 15 rfl
theorem dX0_start_67 : decode cX0_start 67 = .ok (.iconst 0, 1) := decs_at DX0_start_24 16 rfl
theorem dX0_start_68 : decode cX0_start 68 = .ok (.putfield 41, 3) := decs_at DX0_start_24 17 rfl
theorem dX0_start_71 : decode cX0_start 71 = .ok (.return_, 1) := decs_at DX0_start_24 18 rfl
theorem DX0_copyFrom_0 : decs cX0_copyFrom [(0, .aload_n 1, 1), (1, .getfield 9, 3), (4, .iconst 0, 1), (5, .aload_n 0, 1), (6, .getfield 9, 3), (9, .iconst 0, 1), (10, .bipush 17, 2), (12, .invokestatic 49, 3), (15, .aload_n 1, 1), (16, .getfield 18, 3), (19, .iconst 0, 1), (20, .aload_n 0, 1), (21, .getfield 18, 3), (24, .iconst 0, 1), (25, .bipush 17, 2), (27, .invokestatic 49, 3), (30, .aload_n 1, 1), (31, .getfield 21, 3), (34, .iconst 0, 1), (35, .aload_n 0, 1), (36, .getfield 21, 3), (39, .iconst 0, 1), (40, .bipush 17, 2), (42, .invokestatic 49, 3)] := by unfold decs; decide +kernel
theorem dX0_copyFrom_0 : decode cX0_copyFrom 0 = .ok (.aload_n 1, 1) := decs_at DX0_copyFrom_0 0 rfl
theorem dX0_copyFrom_1 : decode cX0_copyFrom 1 = .ok (.getfield 9, 3) := decs_at DX0_copyFrom_0 1 rfl
theorem dX0_copyFrom_4 : decode cX0_copyFrom 4 = .ok (.iconst 0, 1) := decs_at DX0_copyFrom_0 2 rfl
theorem dX0_copyFrom_5 : decode cX0_copyFrom 5 = .ok (.aload_n 0, 1) := decs_at DX0_copyFrom_0 3 rfl
theorem dX0_copyFrom_6 : decode cX0_copyFrom 6 = .ok (.getfield 9, 3) := decs_at DX0_copyFrom_0 4 rfl
theorem dX0_copyFrom_9 : decode cX0_copyFrom 9 = .ok (.iconst 0, 1) := decs_at DX0_copyFrom_0 5 rfl
theorem dX0_copyFrom_10 : decode cX0_copyFrom 10 = .ok (.bipush 17, 2) := decs_at DX0_copyFrom_0 6 rfl
theorem dX0_copyFrom_12 : decode cX0_copyFrom 12 = .ok (.invokestatic 49, 3) := decs_at DX0_copyFrom_0 7 rfl
theorem dX0_copyFrom_15 : decode cX0_copyFrom 15 = .ok (.aload_n 1, 1) := decs_at DX0_copyFrom_0 8 rfl
theorem dX0_copyFrom_16 : decode cX0_copyFrom 16 = .ok (.getfield 18, 3) := decs_at DX0_copyFrom_0 9 rfl
theorem dX0_copyFrom_19 : decode cX0_copyFrom 19 = .ok (.iconst 0, 1) := decs_at DX0_copyFrom_0 10 rfl
theorem dX0_copyFrom_20 : decode cX0_copyFrom 20 = .ok (.aload_n 0, 1) := decs_at DX0_copyFrom_0 11 rfl
theorem dX0_copyFrom_21 : decode cX0_copyFrom 21 = .ok (.getfield 18, 3) := decs_at DX0_copyFrom_0 12 rfl
theorem dX0_copyFrom_24 : decode cX0_copyFrom 24 = .ok (.iconst 0, 1) := decs_at DX0_copyFrom_0 13 rfl
theorem dX0_copyFrom_25 : decode cX0_copyFrom 25 = .ok (.bipush 17, 2) := decs_at DX0_copyFrom_0 14 rfl
theorem dX0_copyFrom_27 : decode cX0_copyFrom 27 = .ok (.invokestatic 49, 3) := decs_at DX0_copyFrom_0 15 rfl
theorem dX0_copyFrom_30 : decode cX0_copyFrom 30 = .ok (.aload_n 1, 1) := decs_at DX0_copyFrom_0 16 rfl
theorem dX0_copyFrom_31 : decode cX0_copyFrom 31 = .ok (.getfield 21, 3) := decs_at DX0_copyFrom_0 17 rfl
theorem dX0_copyFrom_34 : decode cX0_copyFrom 34 = .ok (.iconst 0, 1) := decs_at DX0_copyFrom_0 18 rfl
theorem dX0_copyFrom_35 : decode cX0_copyFrom 35 = .ok (.aload_n 0, 1) := decs_at DX0_copyFrom_0 19 rfl
theorem dX0_copyFrom_36 : decode cX0_copyFrom 36 = .ok (.getfield 21, 3) := decs_at DX0_copyFrom_0 20 rfl
theorem dX0_copyFrom_39 : decode cX0_copyFrom 39 = .ok (.iconst 0, 1) := decs_at DX0_copyFrom_0 21 rfl
theorem dX0_copyFrom_40 : decode cX0_copyFrom 40 = .ok (.bipush 17, 2) := decs_at DX0_copyFrom_0 22 rfl
theorem dX0_copyFrom_42 : decode cX0_copyFrom 42 = .ok (.invokestatic 49, 3) := decs_at DX0_copyFrom_0 23 rfl
theorem DX0_copyFrom_24 : decs cX0_copyFrom [(45, .aload_n 0, 1), (46, .aload_n 1, 1), (47, .getfield 24, 3), (50, .putfield 24, 3), (53, .aload_n 0, 1), (54, .aload_n 1, 1), (55, .getfield 28, 3), (58, .putfield 28, 3), (61, .aload_n 0, 1), (62, .aload_n 1, 1), (63, .getfield 31, 3), (66, .putfield 31, 3), (69, .aload_n 0, 1), (70, .aload_n 1, 1), (71, .getfield 35, 3), (74, .putfield 35, 3), (77, .aload_n 0, 1), (78, .aload_n 1, 1), (79, .getfield 38, 3), (82, .putfield 38, 3), (85, .aload_n 0, 1), (86, .aload_n 1, 1), (87, .getfield 41, 3), (90, .putfield 41, 3)] := by unfold decs; decide +kernel
theorem dX0_copyFrom_45 : decode cX0_copyFrom 45 = .ok (.aload_n 0, 1) := decs_at DX0_copyFrom_24 0 rfl
theorem dX0_copyFrom_46 : decode cX0_copyFrom 46 = .ok (.aload_n 1, 1) := decs_at DX0_copyFrom_24 1 rfl
theorem dX0_copyFrom_47 : decode cX0_copyFrom 47 = .ok (.getfield 24, 3) := decs_at DX0_copyFrom_24 2 rfl
theorem dX0_copyFrom_50 : decode cX0_copyFrom 50 = .ok (.putfield 24, 3) := decs_at DX0_copyFrom_24 3 rfl
theorem dX0_copyFrom_53 : decode cX0_copyFrom 53 = .ok (.aload_n 0, 1) := decs_at DX0_copyFrom_24 4 rfl
theorem dX0_copyFrom_54 : decode cX0_copyFrom 54 = .ok (.aload_n 1, 1) := decs_at DX0_copyFrom_24 5 rfl
theorem dX0_copyFrom_55 : decode cX0_copyFrom 55 = .ok (.getfield 28, 3) := decs_at DX0_copyFrom_24 6 rfl
theorem dX0_copyFrom_58 : decode cX0_copyFrom 58 = .ok (.putfield 28, 3) := decs_at DX0_copyFrom_24 7 rfl
theorem dX0_copyFrom_61 : decode cX0_copyFrom 61 = .ok (.aload_n 0, 1) := decs_at DX0_copyFrom_24 8 rfl
theorem dX0_copyFrom_62 : decode cX0_copyFrom 62 = .ok (.aload_n 1, 1) := decs_at DX0_copyFrom_24 9 rfl
theorem dX0_copyFrom_63 : decode cX0_copyFrom 63 = .ok (.getfield 31, 3) := decs_at DX0_copyFrom_24 10 rfl
theorem dX0_copyFrom_66 : decode cX0_copyFrom 66 = .ok (.putfield 31, 3) := decs_at DX0_copyFrom_24 11 rfl
theorem dX0_copyFrom_69 : decode cX0_copyFrom 69 = .ok (.aload_n 0, 1) := decs_at DX0_copyFrom_24 12 rfl
theorem dX0_copyFrom_70 : decode cX0_copyFrom 70 = .ok (.aload_n 1, 1) := decs_at DX0_copyFrom_24 13 rfl
theorem dX0_copyFrom_71 : decode cX0_copyFrom 71 = .ok (.getfield 35, 3) := decs_at DX0_copyFrom_24 14 rfl
theorem dX0_copyFrom_74 : decode cX0_copyFrom 74 = .ok (.putfield 35, 3) := decs_at DX0_copyFrom_24 15 rfl
theorem dX0_copyFrom_77 : decode cX0_copyFrom 77 = .ok (.aload_n 0, 1) := decs_at DX0_copyFrom_24 16 rfl
theorem dX0_copyFrom_78 : decode cX0_copyFrom 78 = .ok (.aload_n 1, 1) := decs_at DX0_copyFrom_24 17 rfl
theorem dX0_copyFrom_79 : decode cX0_copyFrom 79 = .ok (.getfield 38, 3) := decs_at DX0_copyFrom_24 18 rfl
theorem dX0_copyFrom_82 : decode cX0_copyFrom 82 = .ok (.putfield 38, 3) := decs_at DX0_copyFrom_24 19 rfl
theorem dX0_copyFrom_85 : decode cX0_copyFrom 85 = .ok (.aload_n 0, 1) := decs_at DX0_copyFrom_24 20 rfl
theorem dX0_copyFrom_86 : decode cX0_copyFrom 86 = .ok (.aload_n 1, 1) := decs_at DX0_copyFrom_24 21 rfl
theorem dX0_copyFrom_87 : decode cX0_copyFrom 87 = .ok (.getfield 41, 3) := decs_at DX0_copyFrom_24 22 rfl
theorem dX0_copyFrom_90 : decode cX0_copyFrom 90 = .ok (.putfield 41, 3) := decs_at DX0_copyFrom_24 23 rfl
theorem DX0_copyFrom_48 : decs cX0_copyFrom [(93, .return_, 1)] := by unfold decs; decide +kernel
theorem dX0_copyFrom_93 : decode cX0_copyFrom 93 = .ok (.return_, 1) := decs_at DX0_copyFrom_48 0 rfl
theorem DX0_dumpFromNowOn_0 : decs cX0_dumpFromNowOn [(0, .aload_n 0, 1), (1, .iconst 1, 1), (2, .putfield 31, 3), (5, .aload_n 0, 1), (6, .iconst 0, 1), (7, .putfield 41, 3), (10, .return_, 1)] := by unfold decs; decide +kernel
theorem dX0_dumpFromNowOn_0 : decode cX0_dumpFromNowOn 0 = .ok (.aload_n 0, 1) := decs_at DX0_dumpFromNowOn_0 0 rfl
theorem dX0_dumpFromNowOn_1 : decode cX0_dumpFromNowOn 1 = .ok (.iconst 1, 1) := decs_at DX0_dumpFromNowOn_0 1 rfl
theorem dX0_dumpFromNowOn_2 : decode cX0_dumpFromNowOn 2 = .ok (.putfield 31, 3) := decs_at DX0_dumpFromNowOn_0 2 rfl
theorem dX0_dumpFromNowOn_5 : decode cX0_dumpFromNowOn 5 = .ok (.aload_n 0, 1) := decs_at DX0_dumpFromNowOn_0 3 rfl
theorem dX0_dumpFromNowOn_6 : decode cX0_dumpFromNowOn 6 = .ok (.iconst 0, 1) := decs_at DX0_dumpFromNowOn_0 4 rfl
theorem dX0_dumpFromNowOn_7 : decode cX0_dumpFromNowOn 7 = .ok (.putfield 41, 3) := decs_at DX0_dumpFromNowOn_0 5 rfl
theorem dX0_dumpFromNowOn_10 : decode cX0_dumpFromNowOn 10 = .ok (.return_, 1) := decs_at DX0_dumpFromNowOn_0 6 rfl
theorem DX0_partBehind_0 : decs cX0_partBehind [(0, .aload_n 0, 1), (1, .iload_n 1, 1), (2, .putfield 35, 3), (5, .aload_n 0, 1), (6, .iload_n 2, 1), (7, .putfield 38, 3), (10, .return_, 1)] := by unfold decs; decide +kernel
theorem dX0_partBehind_0 : decode cX0_partBehind 0 = .ok (.aload_n 0, 1) := decs_at DX0_partBehind_0 0 rfl
theorem dX0_partBehind_1 : decode cX0_partBehind 1 = .ok (.iload_n 1, 1) := decs_at DX0_partBehind_0 1 rfl
theorem dX0_partBehind_2 : decode cX0_partBehind 2 = .ok (.putfield 35, 3) := decs_at DX0_partBehind_0 2 rfl
theorem dX0_partBehind_5 : decode cX0_partBehind 5 = .ok (.aload_n 0, 1) := decs_at DX0_partBehind_0 3 rfl
theorem dX0_partBehind_6 : decode cX0_partBehind 6 = .ok (.iload_n 2, 1) := decs_at DX0_partBehind_0 4 rfl
theorem dX0_partBehind_7 : decode cX0_partBehind 7 = .ok (.putfield 38, 3) := decs_at DX0_partBehind_0 5 rfl
theorem dX0_partBehind_10 : decode cX0_partBehind 10 = .ok (.return_, 1) := decs_at DX0_partBehind_0 6 rfl
theorem DX0_measure_0 : decs cX0_measure [(0, .iload_n 1, 1), (1, .ifCond .lt 9, 3), (4, .iload_n 1, 1), (5, .bipush 17, 2), (7, .if_icmp .lt 5, 3), (10, .iconst (-1), 1), (11, .ireturn, 1), (12, .iload_n 2, 1), (13, .ifCond .ne 12, 3), (16, .aload_n 0, 1), (17, .getfield 9, 3), (20, .iload_n 1, 1), (21, .iaload, 1), (22, .goto 23, 3), (25, .iload_n 2, 1), (26, .iconst 1, 1), (27, .if_icmp .ne 12, 3), (30, .aload_n 0, 1), (31, .getfield 18, 3), (34, .iload_n 1, 1), (35, .iaload, 1), (36, .goto 9, 3), (39, .aload_n 0, 1), (40, .getfield 21, 3)] := by unfold decs; decide +kernel
theorem dX0_measure_0 : decode cX0_measure 0 = .ok (.iload_n 1, 1) := decs_at DX0_measure_0 0 rfl
theorem dX0_measure_1 : decode cX0_measure 1 = .ok (.ifCond .lt 9, 3) := decs_at DX0_measure_0 1 rfl
theorem dX0_measure_4 : decode cX0_measure 4 = .ok (.iload_n 1, 1) := decs_at DX0_measure_0 2 rfl
theorem dX0_measure_5 : decode cX0_measure 5 = .ok (.bipush 17, 2) := decs_at DX0_measure_0 3 rfl
theorem dX0_measure_7 : decode cX0_measure 7 = .ok (.if_icmp .lt 5, 3) := decs_at DX0_measure_0 4 rfl
theorem dX0_measure_10 : decode cX0_measure 10 = .ok (.iconst (-1), 1) := decs_at DX0_measure_0 5 rfl
theorem dX0_measure_11 : decode cX0_measure 11 = .ok (.ireturn, 1) := decs_at DX0_measure_0 6 rfl
theorem dX0_measure_12 : decode cX0_measure 12 = .ok (.iload_n 2, 1) := decs_at DX0_measure_0 7 rfl
theorem dX0_measure_13 : decode cX0_measure 13 = .ok (.ifCond .ne 12, 3) := decs_at DX0_measure_0 8 rfl
theorem dX0_measure_16 : decode cX0_measure 16 = .ok (.aload_n 0, 1) := decs_at DX0_measure_0 9 rfl
theorem dX0_measure_17 : decode cX0_measure 17 = .ok (.getfield 9, 3) := decs_at DX0_measure_0 10 rfl
theorem dX0_measure_20 : decode cX0_measure 20 = .ok (.iload_n 1, 1) := decs_at DX0_measure_0 11 rfl
theorem dX0_measure_21 : decode cX0_measure 21 = .ok (.iaload, 1) := decs_at DX0_measure_0 12 rfl
theorem dX0_measure_22 : decode cX0_measure 22 = .ok (.goto 23, 3) := decs_at DX0_measure_0 13 rfl
theorem dX0_measure_25 : decode cX0_measure 25 = .ok (.iload_n 2, 1) := decs_at DX0_measure_0 14 rfl
theorem dX0_measure_26 : decode cX0_measure 26 = .ok (.iconst 1, 1) := decs_at DX0_measure_0 15 rfl
theorem dX0_measure_27 : decode cX0_measure 27 = .ok (.if_icmp .ne 12, 3) := decs_at DX0_measure_0 16 rfl
theorem dX0_measure_30 : decode cX0_measure 30 = .ok (.aload_n 0, 1) := decs_at DX0_measure_0 17 rfl
theorem dX0_measure_31 : decode cX0_measure 31 = .ok (.getfield 18, 3) := decs_at DX0_measure_0 18 rfl
theorem dX0_measure_34 : decode cX0_measure 34 = .ok (.iload_n 1, 1) := decs_at DX0_measure_0 19 rfl
theorem dX0_measure_35 : decode cX0_measure 35 = .ok (.iaload, 1) := decs_at DX0_measure_0 20 rfl
theorem dX0_measure_36 : decode cX0_measure 36 = .ok (.goto 9, 3) := decs_at DX0_measure_0 21 rfl
theorem dX0_measure_39 : decode cX0_measure 39 = .ok (.aload_n 0, 1) := decs_at DX0_measure_0 22 rfl
theorem dX0_measure_40 : decode cX0_measure 40 = .ok (.getfield 21, 3) := decs_at DX0_measure_0 23 rfl
theorem DX0_measure_24 : decs cX0_measure [(43, .iload_n 1, 1), (44, .iaload, 1), (45, .ireturn, 1)] := by unfold decs; decide +kernel
theorem dX0_measure_43 : decode cX0_measure 43 = .ok (.iload_n 1, 1) := decs_at DX0_measure_24 0 rfl
theorem dX0_measure_44 : decode cX0_measure 44 = .ok (.iaload, 1) := decs_at DX0_measure_24 1 rfl
theorem dX0_measure_45 : decode cX0_measure 45 = .ok (.ireturn, 1) := decs_at DX0_measure_24 2 rfl
theorem DX0_anyHears_0 : decs cX0_anyHears [(0, .iconst 1, 1), (1, .istore_n 2, 1), (2, .iload_n 2, 1), (3, .aload_n 1, 1), (4, .getfield 55, 3), (7, .if_icmp .gt 26, 3), (10, .iload_n 2, 1), (11, .bipush 17, 2), (13, .if_icmp .ge 20, 3), (16, .aload_n 0, 1), (17, .getfield 21, 3), (20, .iload_n 2, 1), (21, .iaload, 1), (22, .ifCond .le 5, 3), (25, .iconst 1, 1), (26, .ireturn, 1), (27, .iinc 2 1, 3), (30, .goto (-28), 3), (33, .iconst 0, 1), (34, .ireturn, 1)] := by unfold decs; decide +kernel
theorem dX0_anyHears_0 : decode cX0_anyHears 0 = .ok (.iconst 1, 1) := decs_at DX0_anyHears_0 0 rfl
theorem dX0_anyHears_1 : decode cX0_anyHears 1 = .ok (.istore_n 2, 1) := decs_at DX0_anyHears_0 1 rfl
theorem dX0_anyHears_2 : decode cX0_anyHears 2 = .ok (.iload_n 2, 1) := decs_at DX0_anyHears_0 2 rfl
theorem dX0_anyHears_3 : decode cX0_anyHears 3 = .ok (.aload_n 1, 1) := decs_at DX0_anyHears_0 3 rfl
theorem dX0_anyHears_4 : decode cX0_anyHears 4 = .ok (.getfield 55, 3) := decs_at DX0_anyHears_0 4 rfl
theorem dX0_anyHears_7 : decode cX0_anyHears 7 = .ok (.if_icmp .gt 26, 3) := decs_at DX0_anyHears_0 5 rfl
theorem dX0_anyHears_10 : decode cX0_anyHears 10 = .ok (.iload_n 2, 1) := decs_at DX0_anyHears_0 6 rfl
theorem dX0_anyHears_11 : decode cX0_anyHears 11 = .ok (.bipush 17, 2) := decs_at DX0_anyHears_0 7 rfl
theorem dX0_anyHears_13 : decode cX0_anyHears 13 = .ok (.if_icmp .ge 20, 3) := decs_at DX0_anyHears_0 8 rfl
theorem dX0_anyHears_16 : decode cX0_anyHears 16 = .ok (.aload_n 0, 1) := decs_at DX0_anyHears_0 9 rfl
theorem dX0_anyHears_17 : decode cX0_anyHears 17 = .ok (.getfield 21, 3) := decs_at DX0_anyHears_0 10 rfl
theorem dX0_anyHears_20 : decode cX0_anyHears 20 = .ok (.iload_n 2, 1) := decs_at DX0_anyHears_0 11 rfl
theorem dX0_anyHears_21 : decode cX0_anyHears 21 = .ok (.iaload, 1) := decs_at DX0_anyHears_0 12 rfl
theorem dX0_anyHears_22 : decode cX0_anyHears 22 = .ok (.ifCond .le 5, 3) := decs_at DX0_anyHears_0 13 rfl
theorem dX0_anyHears_25 : decode cX0_anyHears 25 = .ok (.iconst 1, 1) := decs_at DX0_anyHears_0 14 rfl
theorem dX0_anyHears_26 : decode cX0_anyHears 26 = .ok (.ireturn, 1) := decs_at DX0_anyHears_0 15 rfl
theorem dX0_anyHears_27 : decode cX0_anyHears 27 = .ok (.iinc 2 1, 3) := decs_at DX0_anyHears_0 16 rfl
theorem dX0_anyHears_30 : decode cX0_anyHears 30 = .ok (.goto (-28), 3) := decs_at DX0_anyHears_0 17 rfl
theorem dX0_anyHears_33 : decode cX0_anyHears 33 = .ok (.iconst 0, 1) := decs_at DX0_anyHears_0 18 rfl
theorem dX0_anyHears_34 : decode cX0_anyHears 34 = .ok (.ireturn, 1) := decs_at DX0_anyHears_0 19 rfl
theorem DX0_hotSet_0 : decs cX0_hotSet [(0, .iconst 0, 1), (1, .istore_n 2, 1), (2, .iconst 1, 1), (3, .istore_n 3, 1), (4, .iload_n 3, 1), (5, .aload_n 1, 1), (6, .getfield 55, 3), (9, .if_icmp .gt 34, 3), (12, .iload_n 3, 1), (13, .bipush 17, 2), (15, .if_icmp .ge 28, 3), (18, .aload_n 0, 1), (19, .getfield 21, 3), (22, .iload_n 3, 1), (23, .iaload, 1), (24, .bipush 100, 2), (26, .if_icmp .lt 11, 3), (29, .iload_n 2, 1), (30, .iconst 1, 1), (31, .iload_n 3, 1), (32, .iconst 1, 1), (33, .isub, 1), (34, .ishl, 1), (35, .ior, 1)] := by unfold decs; decide +kernel
theorem dX0_hotSet_0 : decode cX0_hotSet 0 = .ok (.iconst 0, 1) := decs_at DX0_hotSet_0 0 rfl
theorem dX0_hotSet_1 : decode cX0_hotSet 1 = .ok (.istore_n 2, 1) := decs_at DX0_hotSet_0 1 rfl
theorem dX0_hotSet_2 : decode cX0_hotSet 2 = .ok (.iconst 1, 1) := decs_at DX0_hotSet_0 2 rfl
theorem dX0_hotSet_3 : decode cX0_hotSet 3 = .ok (.istore_n 3, 1) := decs_at DX0_hotSet_0 3 rfl
theorem dX0_hotSet_4 : decode cX0_hotSet 4 = .ok (.iload_n 3, 1) := decs_at DX0_hotSet_0 4 rfl
theorem dX0_hotSet_5 : decode cX0_hotSet 5 = .ok (.aload_n 1, 1) := decs_at DX0_hotSet_0 5 rfl
theorem dX0_hotSet_6 : decode cX0_hotSet 6 = .ok (.getfield 55, 3) := decs_at DX0_hotSet_0 6 rfl
theorem dX0_hotSet_9 : decode cX0_hotSet 9 = .ok (.if_icmp .gt 34, 3) := decs_at DX0_hotSet_0 7 rfl
theorem dX0_hotSet_12 : decode cX0_hotSet 12 = .ok (.iload_n 3, 1) := decs_at DX0_hotSet_0 8 rfl
theorem dX0_hotSet_13 : decode cX0_hotSet 13 = .ok (.bipush 17, 2) := decs_at DX0_hotSet_0 9 rfl
theorem dX0_hotSet_15 : decode cX0_hotSet 15 = .ok (.if_icmp .ge 28, 3) := decs_at DX0_hotSet_0 10 rfl
theorem dX0_hotSet_18 : decode cX0_hotSet 18 = .ok (.aload_n 0, 1) := decs_at DX0_hotSet_0 11 rfl
theorem dX0_hotSet_19 : decode cX0_hotSet 19 = .ok (.getfield 21, 3) := decs_at DX0_hotSet_0 12 rfl
theorem dX0_hotSet_22 : decode cX0_hotSet 22 = .ok (.iload_n 3, 1) := decs_at DX0_hotSet_0 13 rfl
theorem dX0_hotSet_23 : decode cX0_hotSet 23 = .ok (.iaload, 1) := decs_at DX0_hotSet_0 14 rfl
theorem dX0_hotSet_24 : decode cX0_hotSet 24 = .ok (.bipush 100, 2) := decs_at DX0_hotSet_0 15 rfl
theorem dX0_hotSet_26 : decode cX0_hotSet 26 = .ok (.if_icmp .lt 11, 3) := decs_at DX0_hotSet_0 16 rfl
theorem dX0_hotSet_29 : decode cX0_hotSet 29 = .ok (.iload_n 2, 1) := decs_at DX0_hotSet_0 17 rfl
theorem dX0_hotSet_30 : decode cX0_hotSet 30 = .ok (.iconst 1, 1) := decs_at DX0_hotSet_0 18 rfl
theorem dX0_hotSet_31 : decode cX0_hotSet 31 = .ok (.iload_n 3, 1) := decs_at DX0_hotSet_0 19 rfl
theorem dX0_hotSet_32 : decode cX0_hotSet 32 = .ok (.iconst 1, 1) := decs_at DX0_hotSet_0 20 rfl
theorem dX0_hotSet_33 : decode cX0_hotSet 33 = .ok (.isub, 1) := decs_at DX0_hotSet_0 21 rfl
theorem dX0_hotSet_34 : decode cX0_hotSet 34 = .ok (.ishl, 1) := decs_at DX0_hotSet_0 22 rfl
theorem dX0_hotSet_35 : decode cX0_hotSet 35 = .ok (.ior, 1) := decs_at DX0_hotSet_0 23 rfl
theorem DX0_hotSet_24 : decs cX0_hotSet [(36, .istore_n 2, 1), (37, .iinc 3 1, 3), (40, .goto (-36), 3), (43, .iload_n 2, 1), (44, .ireturn, 1)] := by unfold decs; decide +kernel
theorem dX0_hotSet_36 : decode cX0_hotSet 36 = .ok (.istore_n 2, 1) := decs_at DX0_hotSet_24 0 rfl
theorem dX0_hotSet_37 : decode cX0_hotSet 37 = .ok (.iinc 3 1, 3) := decs_at DX0_hotSet_24 1 rfl
theorem dX0_hotSet_40 : decode cX0_hotSet 40 = .ok (.goto (-36), 3) := decs_at DX0_hotSet_24 2 rfl
theorem dX0_hotSet_43 : decode cX0_hotSet 43 = .ok (.iload_n 2, 1) := decs_at DX0_hotSet_24 3 rfl
theorem dX0_hotSet_44 : decode cX0_hotSet 44 = .ok (.ireturn, 1) := decs_at DX0_hotSet_24 4 rfl
theorem DX0_advance_0 : decs cX0_advance [(0, .aload_n 0, 1), (1, .dup, 1), (2, .getfield 24, 3), (5, .iconst 1, 1), (6, .iadd, 1), (7, .putfield 24, 3), (10, .aload_n 2, 1), (11, .aload_n 0, 1), (12, .getfield 28, 3), (15, .aload_n 0, 1), (16, .getfield 24, 3), (19, .invokevirtual 58, 3), (22, .ifCond .eq 18, 3), (25, .aload_n 0, 1), (26, .dup, 1), (27, .getfield 28, 3), (30, .iconst 1, 1), (31, .iadd, 1), (32, .putfield 28, 3), (35, .aload_n 0, 1), (36, .iconst 0, 1), (37, .putfield 41, 3), (40, .aload_n 0, 1), (41, .getfield 24, 3)] := by unfold decs; decide +kernel
theorem dX0_advance_0 : decode cX0_advance 0 = .ok (.aload_n 0, 1) := decs_at DX0_advance_0 0 rfl
theorem dX0_advance_1 : decode cX0_advance 1 = .ok (.dup, 1) := decs_at DX0_advance_0 1 rfl
theorem dX0_advance_2 : decode cX0_advance 2 = .ok (.getfield 24, 3) := decs_at DX0_advance_0 2 rfl
theorem dX0_advance_5 : decode cX0_advance 5 = .ok (.iconst 1, 1) := decs_at DX0_advance_0 3 rfl
theorem dX0_advance_6 : decode cX0_advance 6 = .ok (.iadd, 1) := decs_at DX0_advance_0 4 rfl
theorem dX0_advance_7 : decode cX0_advance 7 = .ok (.putfield 24, 3) := decs_at DX0_advance_0 5 rfl
theorem dX0_advance_10 : decode cX0_advance 10 = .ok (.aload_n 2, 1) := decs_at DX0_advance_0 6 rfl
theorem dX0_advance_11 : decode cX0_advance 11 = .ok (.aload_n 0, 1) := decs_at DX0_advance_0 7 rfl
theorem dX0_advance_12 : decode cX0_advance 12 = .ok (.getfield 28, 3) := decs_at DX0_advance_0 8 rfl
theorem dX0_advance_15 : decode cX0_advance 15 = .ok (.aload_n 0, 1) := decs_at DX0_advance_0 9 rfl
theorem dX0_advance_16 : decode cX0_advance 16 = .ok (.getfield 24, 3) := decs_at DX0_advance_0 10 rfl
theorem dX0_advance_19 : decode cX0_advance 19 = .ok (.invokevirtual 58, 3) := decs_at DX0_advance_0 11 rfl
theorem dX0_advance_22 : decode cX0_advance 22 = .ok (.ifCond .eq 18, 3) := decs_at DX0_advance_0 12 rfl
theorem dX0_advance_25 : decode cX0_advance 25 = .ok (.aload_n 0, 1) := decs_at DX0_advance_0 13 rfl
theorem dX0_advance_26 : decode cX0_advance 26 = .ok (.dup, 1) := decs_at DX0_advance_0 14 rfl
theorem dX0_advance_27 : decode cX0_advance 27 = .ok (.getfield 28, 3) := decs_at DX0_advance_0 15 rfl
theorem dX0_advance_30 : decode cX0_advance 30 = .ok (.iconst 1, 1) := decs_at DX0_advance_0 16 rfl
theorem dX0_advance_31 : decode cX0_advance 31 = .ok (.iadd, 1) := decs_at DX0_advance_0 17 rfl
theorem dX0_advance_32 : decode cX0_advance 32 = .ok (.putfield 28, 3) := decs_at DX0_advance_0 18 rfl
theorem dX0_advance_35 : decode cX0_advance 35 = .ok (.aload_n 0, 1) := decs_at DX0_advance_0 19 rfl
theorem dX0_advance_36 : decode cX0_advance 36 = .ok (.iconst 0, 1) := decs_at DX0_advance_0 20 rfl
theorem dX0_advance_37 : decode cX0_advance 37 = .ok (.putfield 41, 3) := decs_at DX0_advance_0 21 rfl
theorem dX0_advance_40 : decode cX0_advance 40 = .ok (.aload_n 0, 1) := decs_at DX0_advance_0 22 rfl
theorem dX0_advance_41 : decode cX0_advance 41 = .ok (.getfield 24, 3) := decs_at DX0_advance_0 23 rfl
theorem DX0_advance_24 : decs cX0_advance [(44, .aload_n 0, 1), (45, .getfield 38, 3), (48, .if_icmp .ne 8, 3), (51, .aload_n 0, 1), (52, .iconst 0, 1), (53, .putfield 41, 3), (56, .aload_n 0, 1), (57, .getfield 41, 3), (60, .ifCond .eq 4, 3), (63, .return_, 1), (64, .aload_n 0, 1), (65, .getfield 9, 3), (68, .iconst 0, 1), (69, .aload_n 0, 1), (70, .getfield 15, 3), (73, .iconst 0, 1), (74, .bipush 17, 2), (76, .invokestatic 49, 3), (79, .aload_n 0, 1), (80, .getfield 31, 3), (83, .ifCond .eq 7, 3), (86, .iconst 3, 1), (87, .goto 11, 3), (90, .aload_n 2, 1)] := by unfold decs; decide +kernel
theorem dX0_advance_44 : decode cX0_advance 44 = .ok (.aload_n 0, 1) := decs_at DX0_advance_24 0 rfl
theorem dX0_advance_45 : decode cX0_advance 45 = .ok (.getfield 38, 3) := decs_at DX0_advance_24 1 rfl
theorem dX0_advance_48 : decode cX0_advance 48 = .ok (.if_icmp .ne 8, 3) := decs_at DX0_advance_24 2 rfl
theorem dX0_advance_51 : decode cX0_advance 51 = .ok (.aload_n 0, 1) := decs_at DX0_advance_24 3 rfl
theorem dX0_advance_52 : decode cX0_advance 52 = .ok (.iconst 0, 1) := decs_at DX0_advance_24 4 rfl
theorem dX0_advance_53 : decode cX0_advance 53 = .ok (.putfield 41, 3) := decs_at DX0_advance_24 5 rfl
theorem dX0_advance_56 : decode cX0_advance 56 = .ok (.aload_n 0, 1) := decs_at DX0_advance_24 6 rfl
theorem dX0_advance_57 : decode cX0_advance 57 = .ok (.getfield 41, 3) := decs_at DX0_advance_24 7 rfl
theorem dX0_advance_60 : decode cX0_advance 60 = .ok (.ifCond .eq 4, 3) := decs_at DX0_advance_24 8 rfl
theorem dX0_advance_63 : decode cX0_advance 63 = .ok (.return_, 1) := decs_at DX0_advance_24 9 rfl
theorem dX0_advance_64 : decode cX0_advance 64 = .ok (.aload_n 0, 1) := decs_at DX0_advance_24 10 rfl
theorem dX0_advance_65 : decode cX0_advance 65 = .ok (.getfield 9, 3) := decs_at DX0_advance_24 11 rfl
theorem dX0_advance_68 : decode cX0_advance 68 = .ok (.iconst 0, 1) := decs_at DX0_advance_24 12 rfl
theorem dX0_advance_69 : decode cX0_advance 69 = .ok (.aload_n 0, 1) := decs_at DX0_advance_24 13 rfl
theorem dX0_advance_70 : decode cX0_advance 70 = .ok (.getfield 15, 3) := decs_at DX0_advance_24 14 rfl
theorem dX0_advance_73 : decode cX0_advance 73 = .ok (.iconst 0, 1) := decs_at DX0_advance_24 15 rfl
theorem dX0_advance_74 : decode cX0_advance 74 = .ok (.bipush 17, 2) := decs_at DX0_advance_24 16 rfl
theorem dX0_advance_76 : decode cX0_advance 76 = .ok (.invokestatic 49, 3) := decs_at DX0_advance_24 17 rfl
theorem dX0_advance_79 : decode cX0_advance 79 = .ok (.aload_n 0, 1) := decs_at DX0_advance_24 18 rfl
theorem dX0_advance_80 : decode cX0_advance 80 = .ok (.getfield 31, 3) := decs_at DX0_advance_24 19 rfl
theorem dX0_advance_83 : decode cX0_advance 83 = .ok (.ifCond .eq 7, 3) := decs_at DX0_advance_24 20 rfl
theorem dX0_advance_86 : decode cX0_advance 86 = .ok (.iconst 3, 1) := decs_at DX0_advance_24 21 rfl
theorem dX0_advance_87 : decode cX0_advance 87 = .ok (.goto 11, 3) := decs_at DX0_advance_24 22 rfl
theorem dX0_advance_90 : decode cX0_advance 90 = .ok (.aload_n 2, 1) := decs_at DX0_advance_24 23 rfl
theorem DX0_advance_48 : decs cX0_advance [(91, .aload_n 0, 1), (92, .getfield 28, 3), (95, .invokevirtual 64, 3), (98, .istore_n 3, 1), (99, .aload_n 2, 1), (100, .aload_n 0, 1), (101, .getfield 28, 3), (104, .invokevirtual 68, 3), (107, .istore 4, 2), (109, .aload_n 0, 1), (110, .aload_n 1, 1), (111, .iload_n 3, 1), (112, .iload 4, 2), (114, .iconst 0, 1), (115, .invokevirtual 71, 3), (118, .aload_n 2, 1), (119, .getfield 75, 3), (122, .ifCond .eq 15, 3), (125, .aload_n 0, 1), (126, .aload_n 1, 1), (127, .iload_n 3, 1), (128, .iload 4, 2), (130, .aload_n 1, 1), (131, .getfield 55, 3)] := by unfold decs; decide +kernel
theorem dX0_advance_91 : decode cX0_advance 91 = .ok (.aload_n 0, 1) := decs_at DX0_advance_48 0 rfl
theorem dX0_advance_92 : decode cX0_advance 92 = .ok (.getfield 28, 3) := decs_at DX0_advance_48 1 rfl
theorem dX0_advance_95 : decode cX0_advance 95 = .ok (.invokevirtual 64, 3) := decs_at DX0_advance_48 2 rfl
theorem dX0_advance_98 : decode cX0_advance 98 = .ok (.istore_n 3, 1) := decs_at DX0_advance_48 3 rfl
theorem dX0_advance_99 : decode cX0_advance 99 = .ok (.aload_n 2, 1) := decs_at DX0_advance_48 4 rfl
theorem dX0_advance_100 : decode cX0_advance 100 = .ok (.aload_n 0, 1) := decs_at DX0_advance_48 5 rfl
theorem dX0_advance_101 : decode cX0_advance 101 = .ok (.getfield 28, 3) := decs_at DX0_advance_48 6 rfl
theorem dX0_advance_104 : decode cX0_advance 104 = .ok (.invokevirtual 68, 3) := decs_at DX0_advance_48 7 rfl
theorem dX0_advance_107 : decode cX0_advance 107 = .ok (.istore 4, 2) := decs_at DX0_advance_48 8 rfl
theorem dX0_advance_109 : decode cX0_advance 109 = .ok (.aload_n 0, 1) := decs_at DX0_advance_48 9 rfl
theorem dX0_advance_110 : decode cX0_advance 110 = .ok (.aload_n 1, 1) := decs_at DX0_advance_48 10 rfl
theorem dX0_advance_111 : decode cX0_advance 111 = .ok (.iload_n 3, 1) := decs_at DX0_advance_48 11 rfl
theorem dX0_advance_112 : decode cX0_advance 112 = .ok (.iload 4, 2) := decs_at DX0_advance_48 12 rfl
theorem dX0_advance_114 : decode cX0_advance 114 = .ok (.iconst 0, 1) := decs_at DX0_advance_48 13 rfl
theorem dX0_advance_115 : decode cX0_advance 115 = .ok (.invokevirtual 71, 3) := decs_at DX0_advance_48 14 rfl
theorem dX0_advance_118 : decode cX0_advance 118 = .ok (.aload_n 2, 1) := decs_at DX0_advance_48 15 rfl
theorem dX0_advance_119 : decode cX0_advance 119 = .ok (.getfield 75, 3) := decs_at DX0_advance_48 16 rfl
theorem dX0_advance_122 : decode cX0_advance 122 = .ok (.ifCond .eq 15, 3) := decs_at DX0_advance_48 17 rfl
theorem dX0_advance_125 : decode cX0_advance 125 = .ok (.aload_n 0, 1) := decs_at DX0_advance_48 18 rfl
theorem dX0_advance_126 : decode cX0_advance 126 = .ok (.aload_n 1, 1) := decs_at DX0_advance_48 19 rfl
theorem dX0_advance_127 : decode cX0_advance 127 = .ok (.iload_n 3, 1) := decs_at DX0_advance_48 20 rfl
theorem dX0_advance_128 : decode cX0_advance 128 = .ok (.iload 4, 2) := decs_at DX0_advance_48 21 rfl
theorem dX0_advance_130 : decode cX0_advance 130 = .ok (.aload_n 1, 1) := decs_at DX0_advance_48 22 rfl
theorem dX0_advance_131 : decode cX0_advance 131 = .ok (.getfield 55, 3) := decs_at DX0_advance_48 23 rfl
theorem DX0_advance_72 : decs cX0_advance [(134, .invokevirtual 71, 3), (137, .aload_n 0, 1), (138, .getfield 35, 3), (141, .iconst (-1), 1), (142, .if_icmp .eq 18, 3), (145, .aload_n 0, 1), (146, .getfield 24, 3), (149, .aload_n 0, 1), (150, .getfield 38, 3), (153, .if_icmp .lt 7, 3), (156, .iconst 1, 1), (157, .goto 4, 3), (160, .iconst 0, 1), (161, .istore 5, 2), (163, .aload_n 0, 1), (164, .aload_n 1, 1), (165, .iload 5, 2), (167, .ifCond .eq 10, 3), (170, .aload_n 0, 1), (171, .getfield 35, 3), (174, .goto 4, 3), (177, .iconst (-1), 1), (178, .invokevirtual 78, 3), (181, .iconst 0, 1)] := by unfold decs; decide +kernel
theorem dX0_advance_134 : decode cX0_advance 134 = .ok (.invokevirtual 71, 3) := decs_at DX0_advance_72 0 rfl
theorem dX0_advance_137 : decode cX0_advance 137 = .ok (.aload_n 0, 1) := decs_at DX0_advance_72 1 rfl
theorem dX0_advance_138 : decode cX0_advance 138 = .ok (.getfield 35, 3) := decs_at DX0_advance_72 2 rfl
theorem dX0_advance_141 : decode cX0_advance 141 = .ok (.iconst (-1), 1) := decs_at DX0_advance_72 3 rfl
theorem dX0_advance_142 : decode cX0_advance 142 = .ok (.if_icmp .eq 18, 3) := decs_at DX0_advance_72 4 rfl
theorem dX0_advance_145 : decode cX0_advance 145 = .ok (.aload_n 0, 1) := decs_at DX0_advance_72 5 rfl
theorem dX0_advance_146 : decode cX0_advance 146 = .ok (.getfield 24, 3) := decs_at DX0_advance_72 6 rfl
theorem dX0_advance_149 : decode cX0_advance 149 = .ok (.aload_n 0, 1) := decs_at DX0_advance_72 7 rfl
theorem dX0_advance_150 : decode cX0_advance 150 = .ok (.getfield 38, 3) := decs_at DX0_advance_72 8 rfl
theorem dX0_advance_153 : decode cX0_advance 153 = .ok (.if_icmp .lt 7, 3) := decs_at DX0_advance_72 9 rfl
theorem dX0_advance_156 : decode cX0_advance 156 = .ok (.iconst 1, 1) := decs_at DX0_advance_72 10 rfl
theorem dX0_advance_157 : decode cX0_advance 157 = .ok (.goto 4, 3) := decs_at DX0_advance_72 11 rfl
theorem dX0_advance_160 : decode cX0_advance 160 = .ok (.iconst 0, 1) := decs_at DX0_advance_72 12 rfl
theorem dX0_advance_161 : decode cX0_advance 161 = .ok (.istore 5, 2) := decs_at DX0_advance_72 13 rfl
theorem dX0_advance_163 : decode cX0_advance 163 = .ok (.aload_n 0, 1) := decs_at DX0_advance_72 14 rfl
theorem dX0_advance_164 : decode cX0_advance 164 = .ok (.aload_n 1, 1) := decs_at DX0_advance_72 15 rfl
theorem dX0_advance_165 : decode cX0_advance 165 = .ok (.iload 5, 2) := decs_at DX0_advance_72 16 rfl
theorem dX0_advance_167 : decode cX0_advance 167 = .ok (.ifCond .eq 10, 3) := decs_at DX0_advance_72 17 rfl
theorem dX0_advance_170 : decode cX0_advance 170 = .ok (.aload_n 0, 1) := decs_at DX0_advance_72 18 rfl
theorem dX0_advance_171 : decode cX0_advance 171 = .ok (.getfield 35, 3) := decs_at DX0_advance_72 19 rfl
theorem dX0_advance_174 : decode cX0_advance 174 = .ok (.goto 4, 3) := decs_at DX0_advance_72 20 rfl
theorem dX0_advance_177 : decode cX0_advance 177 = .ok (.iconst (-1), 1) := decs_at DX0_advance_72 21 rfl
theorem dX0_advance_178 : decode cX0_advance 178 = .ok (.invokevirtual 78, 3) := decs_at DX0_advance_72 22 rfl
theorem dX0_advance_181 : decode cX0_advance 181 = .ok (.iconst 0, 1) := decs_at DX0_advance_72 23 rfl
theorem DX0_advance_96 : decs cX0_advance [(182, .istore 6, 2), (184, .iconst 1, 1), (185, .istore 7, 2), (187, .iload 7, 2), (189, .aload_n 1, 1), (190, .getfield 55, 3), (193, .if_icmp .gt 68, 3), (196, .iload 7, 2), (198, .bipush 17, 2), (200, .if_icmp .ge 61, 3), (203, .aload_n 0, 1), (204, .getfield 9, 3), (207, .iload 7, 2), (209, .dup2, 1), (210, .iaload, 1), (211, .aload_n 0, 1), (212, .getfield 9, 3), (215, .iload 7, 2), (217, .iaload, 1), (218, .aload_n 1, 1), (219, .getfield 82, 3), (222, .iload 7, 2), (224, .iaload, 1), (225, .imul, 1)] := by unfold decs; decide +kernel
theorem dX0_advance_182 : decode cX0_advance 182 = .ok (.istore 6, 2) := decs_at DX0_advance_96 0 rfl
theorem dX0_advance_184 : decode cX0_advance 184 = .ok (.iconst 1, 1) := decs_at DX0_advance_96 1 rfl
theorem dX0_advance_185 : decode cX0_advance 185 = .ok (.istore 7, 2) := decs_at DX0_advance_96 2 rfl
theorem dX0_advance_187 : decode cX0_advance 187 = .ok (.iload 7, 2) := decs_at DX0_advance_96 3 rfl
theorem dX0_advance_189 : decode cX0_advance 189 = .ok (.aload_n 1, 1) := decs_at DX0_advance_96 4 rfl
theorem dX0_advance_190 : decode cX0_advance 190 = .ok (.getfield 55, 3) := decs_at DX0_advance_96 5 rfl
theorem dX0_advance_193 : decode cX0_advance 193 = .ok (.if_icmp .gt 68, 3) := decs_at DX0_advance_96 6 rfl
theorem dX0_advance_196 : decode cX0_advance 196 = .ok (.iload 7, 2) := decs_at DX0_advance_96 7 rfl
theorem dX0_advance_198 : decode cX0_advance 198 = .ok (.bipush 17, 2) := decs_at DX0_advance_96 8 rfl
theorem dX0_advance_200 : decode cX0_advance 200 = .ok (.if_icmp .ge 61, 3) := decs_at DX0_advance_96 9 rfl
theorem dX0_advance_203 : decode cX0_advance 203 = .ok (.aload_n 0, 1) := decs_at DX0_advance_96 10 rfl
theorem dX0_advance_204 : decode cX0_advance 204 = .ok (.getfield 9, 3) := decs_at DX0_advance_96 11 rfl
theorem dX0_advance_207 : decode cX0_advance 207 = .ok (.iload 7, 2) := decs_at DX0_advance_96 12 rfl
theorem dX0_advance_209 : decode cX0_advance 209 = .ok (.dup2, 1) := decs_at DX0_advance_96 13 rfl
theorem dX0_advance_210 : decode cX0_advance 210 = .ok (.iaload, 1) := decs_at DX0_advance_96 14 rfl
theorem dX0_advance_211 : decode cX0_advance 211 = .ok (.aload_n 0, 1) := decs_at DX0_advance_96 15 rfl
theorem dX0_advance_212 : decode cX0_advance 212 = .ok (.getfield 9, 3) := decs_at DX0_advance_96 16 rfl
theorem dX0_advance_215 : decode cX0_advance 215 = .ok (.iload 7, 2) := decs_at DX0_advance_96 17 rfl
theorem dX0_advance_217 : decode cX0_advance 217 = .ok (.iaload, 1) := decs_at DX0_advance_96 18 rfl
theorem dX0_advance_218 : decode cX0_advance 218 = .ok (.aload_n 1, 1) := decs_at DX0_advance_96 19 rfl
theorem dX0_advance_219 : decode cX0_advance 219 = .ok (.getfield 82, 3) := decs_at DX0_advance_96 20 rfl
theorem dX0_advance_222 : decode cX0_advance 222 = .ok (.iload 7, 2) := decs_at DX0_advance_96 21 rfl
theorem dX0_advance_224 : decode cX0_advance 224 = .ok (.iaload, 1) := decs_at DX0_advance_96 22 rfl
theorem dX0_advance_225 : decode cX0_advance 225 = .ok (.imul, 1) := decs_at DX0_advance_96 23 rfl
theorem DX0_advance_120 : decs cX0_advance [(226, .sipush 1000, 3), (229, .idiv, 1), (230, .isub, 1), (231, .iastore, 1), (232, .aload_n 1, 1), (233, .getfield 85, 3), (236, .iload 7, 2), (238, .iaload, 1), (239, .ifCond .ne 16, 3), (242, .aload_n 0, 1), (243, .aload_n 1, 1), (244, .iload 7, 2), (246, .invokevirtual 88, 3), (249, .ifCond .eq 6, 3), (252, .iconst 1, 1), (253, .istore 6, 2), (255, .iinc 7 1, 3), (258, .goto (-71), 3), (261, .aload_n 0, 1), (262, .iload 6, 2), (264, .ifCond .ne 18, 3), (267, .aload_n 0, 1), (268, .aload_n 1, 1), (269, .getfield 55, 3)] := by unfold decs; decide +kernel
theorem dX0_advance_226 : decode cX0_advance 226 = .ok (.sipush 1000, 3) := decs_at DX0_advance_120 0 rfl
theorem dX0_advance_229 : decode cX0_advance 229 = .ok (.idiv, 1) := decs_at DX0_advance_120 1 rfl
theorem dX0_advance_230 : decode cX0_advance 230 = .ok (.isub, 1) := decs_at DX0_advance_120 2 rfl
theorem dX0_advance_231 : decode cX0_advance 231 = .ok (.iastore, 1) := decs_at DX0_advance_120 3 rfl
theorem dX0_advance_232 : decode cX0_advance 232 = .ok (.aload_n 1, 1) := decs_at DX0_advance_120 4 rfl
theorem dX0_advance_233 : decode cX0_advance 233 = .ok (.getfield 85, 3) := decs_at DX0_advance_120 5 rfl
theorem dX0_advance_236 : decode cX0_advance 236 = .ok (.iload 7, 2) := decs_at DX0_advance_120 6 rfl
theorem dX0_advance_238 : decode cX0_advance 238 = .ok (.iaload, 1) := decs_at DX0_advance_120 7 rfl
theorem dX0_advance_239 : decode cX0_advance 239 = .ok (.ifCond .ne 16, 3) := decs_at DX0_advance_120 8 rfl
theorem dX0_advance_242 : decode cX0_advance 242 = .ok (.aload_n 0, 1) := decs_at DX0_advance_120 9 rfl
theorem dX0_advance_243 : decode cX0_advance 243 = .ok (.aload_n 1, 1) := decs_at DX0_advance_120 10 rfl
theorem dX0_advance_244 : decode cX0_advance 244 = .ok (.iload 7, 2) := decs_at DX0_advance_120 11 rfl
theorem dX0_advance_246 : decode cX0_advance 246 = .ok (.invokevirtual 88, 3) := decs_at DX0_advance_120 12 rfl
theorem dX0_advance_249 : decode cX0_advance 249 = .ok (.ifCond .eq 6, 3) := decs_at DX0_advance_120 13 rfl
theorem dX0_advance_252 : decode cX0_advance 252 = .ok (.iconst 1, 1) := decs_at DX0_advance_120 14 rfl
theorem dX0_advance_253 : decode cX0_advance 253 = .ok (.istore 6, 2) := decs_at DX0_advance_120 15 rfl
theorem dX0_advance_255 : decode cX0_advance 255 = .ok (.iinc 7 1, 3) := decs_at DX0_advance_120 16 rfl
theorem dX0_advance_258 : decode cX0_advance 258 = .ok (.goto (-71), 3) := decs_at DX0_advance_120 17 rfl
theorem dX0_advance_261 : decode cX0_advance 261 = .ok (.aload_n 0, 1) := decs_at DX0_advance_120 18 rfl
theorem dX0_advance_262 : decode cX0_advance 262 = .ok (.iload 6, 2) := decs_at DX0_advance_120 19 rfl
theorem dX0_advance_264 : decode cX0_advance 264 = .ok (.ifCond .ne 18, 3) := decs_at DX0_advance_120 20 rfl
theorem dX0_advance_267 : decode cX0_advance 267 = .ok (.aload_n 0, 1) := decs_at DX0_advance_120 21 rfl
theorem dX0_advance_268 : decode cX0_advance 268 = .ok (.aload_n 1, 1) := decs_at DX0_advance_120 22 rfl
theorem dX0_advance_269 : decode cX0_advance 269 = .ok (.getfield 55, 3) := decs_at DX0_advance_120 23 rfl
theorem DX0_advance_144 : decs cX0_advance [(272, .invokevirtual 92, 3), (275, .ifCond .eq 7, 3), (278, .iconst 1, 1), (279, .goto 4, 3), (282, .iconst 0, 1), (283, .putfield 41, 3), (286, .return_, 1)] := by unfold decs; decide +kernel
theorem dX0_advance_272 : decode cX0_advance 272 = .ok (.invokevirtual 92, 3) := decs_at DX0_advance_144 0 rfl
theorem dX0_advance_275 : decode cX0_advance 275 = .ok (.ifCond .eq 7, 3) := decs_at DX0_advance_144 1 rfl
theorem dX0_advance_278 : decode cX0_advance 278 = .ok (.iconst 1, 1) := decs_at DX0_advance_144 2 rfl
theorem dX0_advance_279 : decode cX0_advance 279 = .ok (.goto 4, 3) := decs_at DX0_advance_144 3 rfl
theorem dX0_advance_282 : decode cX0_advance 282 = .ok (.iconst 0, 1) := decs_at DX0_advance_144 4 rfl
theorem dX0_advance_283 : decode cX0_advance 283 = .ok (.putfield 41, 3) := decs_at DX0_advance_144 5 rfl
theorem dX0_advance_286 : decode cX0_advance 286 = .ok (.return_, 1) := decs_at DX0_advance_144 6 rfl
theorem DX0_work_0 : decs cX0_work [(0, .iload 4, 2), (2, .ifCond .lt 10, 3), (5, .iload 4, 2), (7, .bipush 17, 2), (9, .if_icmp .lt 4, 3), (12, .return_, 1), (13, .iload_n 2, 1), (14, .ifCond .ne 46, 3), (17, .aload_n 0, 1), (18, .getfield 9, 3), (21, .iload 4, 2), (23, .iaload, 1), (24, .aload_n 1, 1), (25, .getfield 44, 3), (28, .if_icmp .ge 32, 3), (31, .aload_n 0, 1), (32, .getfield 9, 3), (35, .iload 4, 2), (37, .aload_n 1, 1), (38, .getfield 44, 3), (41, .aload_n 0, 1), (42, .getfield 9, 3), (45, .iload 4, 2), (47, .iaload, 1)] := by unfold decs; decide +kernel
theorem dX0_work_0 : decode cX0_work 0 = .ok (.iload 4, 2) := decs_at DX0_work_0 0 rfl
theorem dX0_work_2 : decode cX0_work 2 = .ok (.ifCond .lt 10, 3) := decs_at DX0_work_0 1 rfl
theorem dX0_work_5 : decode cX0_work 5 = .ok (.iload 4, 2) := decs_at DX0_work_0 2 rfl
theorem dX0_work_7 : decode cX0_work 7 = .ok (.bipush 17, 2) := decs_at DX0_work_0 3 rfl
theorem dX0_work_9 : decode cX0_work 9 = .ok (.if_icmp .lt 4, 3) := decs_at DX0_work_0 4 rfl
theorem dX0_work_12 : decode cX0_work 12 = .ok (.return_, 1) := decs_at DX0_work_0 5 rfl
theorem dX0_work_13 : decode cX0_work 13 = .ok (.iload_n 2, 1) := decs_at DX0_work_0 6 rfl
theorem dX0_work_14 : decode cX0_work 14 = .ok (.ifCond .ne 46, 3) := decs_at DX0_work_0 7 rfl
theorem dX0_work_17 : decode cX0_work 17 = .ok (.aload_n 0, 1) := decs_at DX0_work_0 8 rfl
theorem dX0_work_18 : decode cX0_work 18 = .ok (.getfield 9, 3) := decs_at DX0_work_0 9 rfl
theorem dX0_work_21 : decode cX0_work 21 = .ok (.iload 4, 2) := decs_at DX0_work_0 10 rfl
theorem dX0_work_23 : decode cX0_work 23 = .ok (.iaload, 1) := decs_at DX0_work_0 11 rfl
theorem dX0_work_24 : decode cX0_work 24 = .ok (.aload_n 1, 1) := decs_at DX0_work_0 12 rfl
theorem dX0_work_25 : decode cX0_work 25 = .ok (.getfield 44, 3) := decs_at DX0_work_0 13 rfl
theorem dX0_work_28 : decode cX0_work 28 = .ok (.if_icmp .ge 32, 3) := decs_at DX0_work_0 14 rfl
theorem dX0_work_31 : decode cX0_work 31 = .ok (.aload_n 0, 1) := decs_at DX0_work_0 15 rfl
theorem dX0_work_32 : decode cX0_work 32 = .ok (.getfield 9, 3) := decs_at DX0_work_0 16 rfl
theorem dX0_work_35 : decode cX0_work 35 = .ok (.iload 4, 2) := decs_at DX0_work_0 17 rfl
theorem dX0_work_37 : decode cX0_work 37 = .ok (.aload_n 1, 1) := decs_at DX0_work_0 18 rfl
theorem dX0_work_38 : decode cX0_work 38 = .ok (.getfield 44, 3) := decs_at DX0_work_0 19 rfl
theorem dX0_work_41 : decode cX0_work 41 = .ok (.aload_n 0, 1) := decs_at DX0_work_0 20 rfl
theorem dX0_work_42 : decode cX0_work 42 = .ok (.getfield 9, 3) := decs_at DX0_work_0 21 rfl
theorem dX0_work_45 : decode cX0_work 45 = .ok (.iload 4, 2) := decs_at DX0_work_0 22 rfl
theorem dX0_work_47 : decode cX0_work 47 = .ok (.iaload, 1) := decs_at DX0_work_0 23 rfl
theorem DX0_work_24 : decs cX0_work [(48, .aload_n 1, 1), (49, .getfield 96, 3), (52, .iadd, 1), (53, .invokestatic 99, 3), (56, .iastore, 1), (57, .goto 44, 3), (60, .iload_n 2, 1), (61, .iconst 2, 1), (62, .if_icmp .ne 26, 3), (65, .aload_n 0, 1), (66, .getfield 9, 3), (69, .iload 4, 2), (71, .iconst 0, 1), (72, .aload_n 0, 1), (73, .getfield 9, 3), (76, .iload 4, 2), (78, .iaload, 1), (79, .iload_n 3, 1), (80, .isub, 1), (81, .invokestatic 105, 3), (84, .iastore, 1), (85, .goto 16, 3), (88, .iload_n 2, 1), (89, .iconst 3, 1)] := by unfold decs; decide +kernel
theorem dX0_work_48 : decode cX0_work 48 = .ok (.aload_n 1, 1) := decs_at DX0_work_24 0 rfl
theorem dX0_work_49 : decode cX0_work 49 = .ok (.getfield 96, 3) := decs_at DX0_work_24 1 rfl
theorem dX0_work_52 : decode cX0_work 52 = .ok (.iadd, 1) := decs_at DX0_work_24 2 rfl
theorem dX0_work_53 : decode cX0_work 53 = .ok (.invokestatic 99, 3) := decs_at DX0_work_24 3 rfl
theorem dX0_work_56 : decode cX0_work 56 = .ok (.iastore, 1) := decs_at DX0_work_24 4 rfl
theorem dX0_work_57 : decode cX0_work 57 = .ok (.goto 44, 3) := decs_at DX0_work_24 5 rfl
theorem dX0_work_60 : decode cX0_work 60 = .ok (.iload_n 2, 1) := decs_at DX0_work_24 6 rfl
theorem dX0_work_61 : decode cX0_work 61 = .ok (.iconst 2, 1) := decs_at DX0_work_24 7 rfl
theorem dX0_work_62 : decode cX0_work 62 = .ok (.if_icmp .ne 26, 3) := decs_at DX0_work_24 8 rfl
theorem dX0_work_65 : decode cX0_work 65 = .ok (.aload_n 0, 1) := decs_at DX0_work_24 9 rfl
theorem dX0_work_66 : decode cX0_work 66 = .ok (.getfield 9, 3) := decs_at DX0_work_24 10 rfl
theorem dX0_work_69 : decode cX0_work 69 = .ok (.iload 4, 2) := decs_at DX0_work_24 11 rfl
theorem dX0_work_71 : decode cX0_work 71 = .ok (.iconst 0, 1) := decs_at DX0_work_24 12 rfl
theorem dX0_work_72 : decode cX0_work 72 = .ok (.aload_n 0, 1) := decs_at DX0_work_24 13 rfl
theorem dX0_work_73 : decode cX0_work 73 = .ok (.getfield 9, 3) := decs_at DX0_work_24 14 rfl
theorem dX0_work_76 : decode cX0_work 76 = .ok (.iload 4, 2) := decs_at DX0_work_24 15 rfl
theorem dX0_work_78 : decode cX0_work 78 = .ok (.iaload, 1) := decs_at DX0_work_24 16 rfl
theorem dX0_work_79 : decode cX0_work 79 = .ok (.iload_n 3, 1) := decs_at DX0_work_24 17 rfl
theorem dX0_work_80 : decode cX0_work 80 = .ok (.isub, 1) := decs_at DX0_work_24 18 rfl
theorem dX0_work_81 : decode cX0_work 81 = .ok (.invokestatic 105, 3) := decs_at DX0_work_24 19 rfl
theorem dX0_work_84 : decode cX0_work 84 = .ok (.iastore, 1) := decs_at DX0_work_24 20 rfl
theorem dX0_work_85 : decode cX0_work 85 = .ok (.goto 16, 3) := decs_at DX0_work_24 21 rfl
theorem dX0_work_88 : decode cX0_work 88 = .ok (.iload_n 2, 1) := decs_at DX0_work_24 22 rfl
theorem dX0_work_89 : decode cX0_work 89 = .ok (.iconst 3, 1) := decs_at DX0_work_24 23 rfl
theorem DX0_work_48 : decs cX0_work [(90, .if_icmp .ne 11, 3), (93, .aload_n 0, 1), (94, .getfield 9, 3), (97, .iload 4, 2), (99, .iconst 0, 1), (100, .iastore, 1), (101, .return_, 1)] := by unfold decs; decide +kernel
theorem dX0_work_90 : decode cX0_work 90 = .ok (.if_icmp .ne 11, 3) := decs_at DX0_work_48 0 rfl
theorem dX0_work_93 : decode cX0_work 93 = .ok (.aload_n 0, 1) := decs_at DX0_work_48 1 rfl
theorem dX0_work_94 : decode cX0_work 94 = .ok (.getfield 9, 3) := decs_at DX0_work_48 2 rfl
theorem dX0_work_97 : decode cX0_work 97 = .ok (.iload 4, 2) := decs_at DX0_work_48 3 rfl
theorem dX0_work_99 : decode cX0_work 99 = .ok (.iconst 0, 1) := decs_at DX0_work_48 4 rfl
theorem dX0_work_100 : decode cX0_work 100 = .ok (.iastore, 1) := decs_at DX0_work_48 5 rfl
theorem dX0_work_101 : decode cX0_work 101 = .ok (.return_, 1) := decs_at DX0_work_48 6 rfl
theorem DX0_flow_0 : decs cX0_flow [(0, .aload_n 0, 1), (1, .getfield 9, 3), (4, .iconst 0, 1), (5, .iaload, 1), (6, .istore_n 3, 1), (7, .iconst 1, 1), (8, .istore 4, 2), (10, .iload 4, 2), (12, .aload_n 1, 1), (13, .getfield 55, 3), (16, .if_icmp .gt 84, 3), (19, .iload 4, 2), (21, .bipush 17, 2), (23, .if_icmp .ge 77, 3), (26, .aload_n 0, 1), (27, .getfield 9, 3), (30, .iload 4, 2), (32, .iaload, 1), (33, .istore 5, 2), (35, .iload 4, 2), (37, .iconst 1, 1), (38, .isub, 1), (39, .iload_n 2, 1), (40, .if_icmp .ne 7, 3)] := by unfold decs; decide +kernel
theorem dX0_flow_0 : decode cX0_flow 0 = .ok (.aload_n 0, 1) := decs_at DX0_flow_0 0 rfl
theorem dX0_flow_1 : decode cX0_flow 1 = .ok (.getfield 9, 3) := decs_at DX0_flow_0 1 rfl
theorem dX0_flow_4 : decode cX0_flow 4 = .ok (.iconst 0, 1) := decs_at DX0_flow_0 2 rfl
theorem dX0_flow_5 : decode cX0_flow 5 = .ok (.iaload, 1) := decs_at DX0_flow_0 3 rfl
theorem dX0_flow_6 : decode cX0_flow 6 = .ok (.istore_n 3, 1) := decs_at DX0_flow_0 4 rfl
theorem dX0_flow_7 : decode cX0_flow 7 = .ok (.iconst 1, 1) := decs_at DX0_flow_0 5 rfl
theorem dX0_flow_8 : decode cX0_flow 8 = .ok (.istore 4, 2) := decs_at DX0_flow_0 6 rfl
theorem dX0_flow_10 : decode cX0_flow 10 = .ok (.iload 4, 2) := decs_at DX0_flow_0 7 rfl
theorem dX0_flow_12 : decode cX0_flow 12 = .ok (.aload_n 1, 1) := decs_at DX0_flow_0 8 rfl
theorem dX0_flow_13 : decode cX0_flow 13 = .ok (.getfield 55, 3) := decs_at DX0_flow_0 9 rfl
theorem dX0_flow_16 : decode cX0_flow 16 = .ok (.if_icmp .gt 84, 3) := decs_at DX0_flow_0 10 rfl
theorem dX0_flow_19 : decode cX0_flow 19 = .ok (.iload 4, 2) := decs_at DX0_flow_0 11 rfl
theorem dX0_flow_21 : decode cX0_flow 21 = .ok (.bipush 17, 2) := decs_at DX0_flow_0 12 rfl
theorem dX0_flow_23 : decode cX0_flow 23 = .ok (.if_icmp .ge 77, 3) := decs_at DX0_flow_0 13 rfl
theorem dX0_flow_26 : decode cX0_flow 26 = .ok (.aload_n 0, 1) := decs_at DX0_flow_0 14 rfl
theorem dX0_flow_27 : decode cX0_flow 27 = .ok (.getfield 9, 3) := decs_at DX0_flow_0 15 rfl
theorem dX0_flow_30 : decode cX0_flow 30 = .ok (.iload 4, 2) := decs_at DX0_flow_0 16 rfl
theorem dX0_flow_32 : decode cX0_flow 32 = .ok (.iaload, 1) := decs_at DX0_flow_0 17 rfl
theorem dX0_flow_33 : decode cX0_flow 33 = .ok (.istore 5, 2) := decs_at DX0_flow_0 18 rfl
theorem dX0_flow_35 : decode cX0_flow 35 = .ok (.iload 4, 2) := decs_at DX0_flow_0 19 rfl
theorem dX0_flow_37 : decode cX0_flow 37 = .ok (.iconst 1, 1) := decs_at DX0_flow_0 20 rfl
theorem dX0_flow_38 : decode cX0_flow 38 = .ok (.isub, 1) := decs_at DX0_flow_0 21 rfl
theorem dX0_flow_39 : decode cX0_flow 39 = .ok (.iload_n 2, 1) := decs_at DX0_flow_0 22 rfl
theorem dX0_flow_40 : decode cX0_flow 40 = .ok (.if_icmp .ne 7, 3) := decs_at DX0_flow_0 23 rfl
theorem DX0_flow_24 : decs cX0_flow [(43, .iconst 0, 1), (44, .goto 19, 3), (47, .iload_n 3, 1), (48, .iload 5, 2), (50, .isub, 1), (51, .aload_n 1, 1), (52, .getfield 108, 3), (55, .iload 4, 2), (57, .iaload, 1), (58, .imul, 1), (59, .sipush 400, 3), (62, .idiv, 1), (63, .istore 6, 2), (65, .aload_n 0, 1), (66, .getfield 9, 3), (69, .iload 4, 2), (71, .iconst 1, 1), (72, .isub, 1), (73, .dup2, 1), (74, .iaload, 1), (75, .iload 6, 2), (77, .isub, 1), (78, .iastore, 1), (79, .aload_n 0, 1)] := by unfold decs; decide +kernel
theorem dX0_flow_43 : decode cX0_flow 43 = .ok (.iconst 0, 1) := decs_at DX0_flow_24 0 rfl
theorem dX0_flow_44 : decode cX0_flow 44 = .ok (.goto 19, 3) := decs_at DX0_flow_24 1 rfl
theorem dX0_flow_47 : decode cX0_flow 47 = .ok (.iload_n 3, 1) := decs_at DX0_flow_24 2 rfl
theorem dX0_flow_48 : decode cX0_flow 48 = .ok (.iload 5, 2) := decs_at DX0_flow_24 3 rfl
theorem dX0_flow_50 : decode cX0_flow 50 = .ok (.isub, 1) := decs_at DX0_flow_24 4 rfl
theorem dX0_flow_51 : decode cX0_flow 51 = .ok (.aload_n 1, 1) := decs_at DX0_flow_24 5 rfl
theorem dX0_flow_52 : decode cX0_flow 52 = .ok (.getfield 108, 3) := decs_at DX0_flow_24 6 rfl
theorem dX0_flow_55 : decode cX0_flow 55 = .ok (.iload 4, 2) := decs_at DX0_flow_24 7 rfl
theorem dX0_flow_57 : decode cX0_flow 57 = .ok (.iaload, 1) := decs_at DX0_flow_24 8 rfl
theorem dX0_flow_58 : decode cX0_flow 58 = .ok (.imul, 1) := decs_at DX0_flow_24 9 rfl
theorem dX0_flow_59 : decode cX0_flow 59 = .ok (.sipush 400, 3) := decs_at DX0_flow_24 10 rfl
theorem dX0_flow_62 : decode cX0_flow 62 = .ok (.idiv, 1) := decs_at DX0_flow_24 11 rfl
theorem dX0_flow_63 : decode cX0_flow 63 = .ok (.istore 6, 2) := decs_at DX0_flow_24 12 rfl
theorem dX0_flow_65 : decode cX0_flow 65 = .ok (.aload_n 0, 1) := decs_at DX0_flow_24 13 rfl
theorem dX0_flow_66 : decode cX0_flow 66 = .ok (.getfield 9, 3) := decs_at DX0_flow_24 14 rfl
theorem dX0_flow_69 : decode cX0_flow 69 = .ok (.iload 4, 2) := decs_at DX0_flow_24 15 rfl
theorem dX0_flow_71 : decode cX0_flow 71 = .ok (.iconst 1, 1) := decs_at DX0_flow_24 16 rfl
theorem dX0_flow_72 : decode cX0_flow 72 = .ok (.isub, 1) := decs_at DX0_flow_24 17 rfl
theorem dX0_flow_73 : decode cX0_flow 73 = .ok (.dup2, 1) := decs_at DX0_flow_24 18 rfl
theorem dX0_flow_74 : decode cX0_flow 74 = .ok (.iaload, 1) := decs_at DX0_flow_24 19 rfl
theorem dX0_flow_75 : decode cX0_flow 75 = .ok (.iload 6, 2) := decs_at DX0_flow_24 20 rfl
theorem dX0_flow_77 : decode cX0_flow 77 = .ok (.isub, 1) := decs_at DX0_flow_24 21 rfl
theorem dX0_flow_78 : decode cX0_flow 78 = .ok (.iastore, 1) := decs_at DX0_flow_24 22 rfl
theorem dX0_flow_79 : decode cX0_flow 79 = .ok (.aload_n 0, 1) := decs_at DX0_flow_24 23 rfl
theorem DX0_flow_48 : decs cX0_flow [(80, .getfield 9, 3), (83, .iload 4, 2), (85, .dup2, 1), (86, .iaload, 1), (87, .iload 6, 2), (89, .iadd, 1), (90, .iastore, 1), (91, .iload 5, 2), (93, .istore_n 3, 1), (94, .iinc 4 1, 3), (97, .goto (-87), 3), (100, .iload_n 2, 1), (101, .ifCond .lt 25, 3), (104, .iload_n 2, 1), (105, .bipush 16, 2), (107, .if_icmp .ge 19, 3), (110, .aload_n 0, 1), (111, .getfield 9, 3), (114, .iload_n 2, 1), (115, .iconst 0, 1), (116, .iastore, 1), (117, .aload_n 0, 1), (118, .getfield 9, 3), (121, .iload_n 2, 1)] := by unfold decs; decide +kernel
theorem dX0_flow_80 : decode cX0_flow 80 = .ok (.getfield 9, 3) := decs_at DX0_flow_48 0 rfl
theorem dX0_flow_83 : decode cX0_flow 83 = .ok (.iload 4, 2) := decs_at DX0_flow_48 1 rfl
theorem dX0_flow_85 : decode cX0_flow 85 = .ok (.dup2, 1) := decs_at DX0_flow_48 2 rfl
theorem dX0_flow_86 : decode cX0_flow 86 = .ok (.iaload, 1) := decs_at DX0_flow_48 3 rfl
theorem dX0_flow_87 : decode cX0_flow 87 = .ok (.iload 6, 2) := decs_at DX0_flow_48 4 rfl
theorem dX0_flow_89 : decode cX0_flow 89 = .ok (.iadd, 1) := decs_at DX0_flow_48 5 rfl
theorem dX0_flow_90 : decode cX0_flow 90 = .ok (.iastore, 1) := decs_at DX0_flow_48 6 rfl
theorem dX0_flow_91 : decode cX0_flow 91 = .ok (.iload 5, 2) := decs_at DX0_flow_48 7 rfl
theorem dX0_flow_93 : decode cX0_flow 93 = .ok (.istore_n 3, 1) := decs_at DX0_flow_48 8 rfl
theorem dX0_flow_94 : decode cX0_flow 94 = .ok (.iinc 4 1, 3) := decs_at DX0_flow_48 9 rfl
theorem dX0_flow_97 : decode cX0_flow 97 = .ok (.goto (-87), 3) := decs_at DX0_flow_48 10 rfl
theorem dX0_flow_100 : decode cX0_flow 100 = .ok (.iload_n 2, 1) := decs_at DX0_flow_48 11 rfl
theorem dX0_flow_101 : decode cX0_flow 101 = .ok (.ifCond .lt 25, 3) := decs_at DX0_flow_48 12 rfl
theorem dX0_flow_104 : decode cX0_flow 104 = .ok (.iload_n 2, 1) := decs_at DX0_flow_48 13 rfl
theorem dX0_flow_105 : decode cX0_flow 105 = .ok (.bipush 16, 2) := decs_at DX0_flow_48 14 rfl
theorem dX0_flow_107 : decode cX0_flow 107 = .ok (.if_icmp .ge 19, 3) := decs_at DX0_flow_48 15 rfl
theorem dX0_flow_110 : decode cX0_flow 110 = .ok (.aload_n 0, 1) := decs_at DX0_flow_48 16 rfl
theorem dX0_flow_111 : decode cX0_flow 111 = .ok (.getfield 9, 3) := decs_at DX0_flow_48 17 rfl
theorem dX0_flow_114 : decode cX0_flow 114 = .ok (.iload_n 2, 1) := decs_at DX0_flow_48 18 rfl
theorem dX0_flow_115 : decode cX0_flow 115 = .ok (.iconst 0, 1) := decs_at DX0_flow_48 19 rfl
theorem dX0_flow_116 : decode cX0_flow 116 = .ok (.iastore, 1) := decs_at DX0_flow_48 20 rfl
theorem dX0_flow_117 : decode cX0_flow 117 = .ok (.aload_n 0, 1) := decs_at DX0_flow_48 21 rfl
theorem dX0_flow_118 : decode cX0_flow 118 = .ok (.getfield 9, 3) := decs_at DX0_flow_48 22 rfl
theorem dX0_flow_121 : decode cX0_flow 121 = .ok (.iload_n 2, 1) := decs_at DX0_flow_48 23 rfl
theorem DX0_flow_72 : decs cX0_flow [(122, .iconst 1, 1), (123, .iadd, 1), (124, .iconst 0, 1), (125, .iastore, 1), (126, .return_, 1)] := by unfold decs; decide +kernel
theorem dX0_flow_122 : decode cX0_flow 122 = .ok (.iconst 1, 1) := decs_at DX0_flow_72 0 rfl
theorem dX0_flow_123 : decode cX0_flow 123 = .ok (.iadd, 1) := decs_at DX0_flow_72 1 rfl
theorem dX0_flow_124 : decode cX0_flow 124 = .ok (.iconst 0, 1) := decs_at DX0_flow_72 2 rfl
theorem dX0_flow_125 : decode cX0_flow 125 = .ok (.iastore, 1) := decs_at DX0_flow_72 3 rfl
theorem dX0_flow_126 : decode cX0_flow 126 = .ok (.return_, 1) := decs_at DX0_flow_72 4 rfl
theorem DX0_moveValve_0 : decs cX0_moveValve [(0, .iload_n 2, 1), (1, .iconst 1, 1), (2, .if_icmp .lt 9, 3), (5, .iload_n 2, 1), (6, .bipush 17, 2), (8, .if_icmp .lt 5, 3), (11, .iconst 0, 1), (12, .ireturn, 1), (13, .aload_n 1, 1), (14, .getfield 111, 3), (17, .iload_n 2, 1), (18, .iaload, 1), (19, .istore_n 3, 1), (20, .iload_n 3, 1), (21, .iconst 1, 1), (22, .if_icmp .ne 8, 3), (25, .bipush 10, 2), (27, .goto 15, 3), (30, .iload_n 3, 1), (31, .iconst 2, 1), (32, .if_icmp .ne 8, 3), (35, .bipush 30, 2), (37, .goto 5, 3), (40, .bipush 20, 2)] := by unfold decs; decide +kernel
theorem dX0_moveValve_0 : decode cX0_moveValve 0 = .ok (.iload_n 2, 1) := decs_at DX0_moveValve_0 0 rfl
theorem dX0_moveValve_1 : decode cX0_moveValve 1 = .ok (.iconst 1, 1) := decs_at DX0_moveValve_0 1 rfl
theorem dX0_moveValve_2 : decode cX0_moveValve 2 = .ok (.if_icmp .lt 9, 3) := decs_at DX0_moveValve_0 2 rfl
theorem dX0_moveValve_5 : decode cX0_moveValve 5 = .ok (.iload_n 2, 1) := decs_at DX0_moveValve_0 3 rfl
theorem dX0_moveValve_6 : decode cX0_moveValve 6 = .ok (.bipush 17, 2) := decs_at DX0_moveValve_0 4 rfl
theorem dX0_moveValve_8 : decode cX0_moveValve 8 = .ok (.if_icmp .lt 5, 3) := decs_at DX0_moveValve_0 5 rfl
theorem dX0_moveValve_11 : decode cX0_moveValve 11 = .ok (.iconst 0, 1) := decs_at DX0_moveValve_0 6 rfl
theorem dX0_moveValve_12 : decode cX0_moveValve 12 = .ok (.ireturn, 1) := decs_at DX0_moveValve_0 7 rfl
theorem dX0_moveValve_13 : decode cX0_moveValve 13 = .ok (.aload_n 1, 1) := decs_at DX0_moveValve_0 8 rfl
theorem dX0_moveValve_14 : decode cX0_moveValve 14 = .ok (.getfield 111, 3) := decs_at DX0_moveValve_0 9 rfl
theorem dX0_moveValve_17 : decode cX0_moveValve 17 = .ok (.iload_n 2, 1) := decs_at DX0_moveValve_0 10 rfl
theorem dX0_moveValve_18 : decode cX0_moveValve 18 = .ok (.iaload, 1) := decs_at DX0_moveValve_0 11 rfl
theorem dX0_moveValve_19 : decode cX0_moveValve 19 = .ok (.istore_n 3, 1) := decs_at DX0_moveValve_0 12 rfl
theorem dX0_moveValve_20 : decode cX0_moveValve 20 = .ok (.iload_n 3, 1) := decs_at DX0_moveValve_0 13 rfl
theorem dX0_moveValve_21 : decode cX0_moveValve 21 = .ok (.iconst 1, 1) := decs_at DX0_moveValve_0 14 rfl
theorem dX0_moveValve_22 : decode cX0_moveValve 22 = .ok (.if_icmp .ne 8, 3) := decs_at DX0_moveValve_0 15 rfl
theorem dX0_moveValve_25 : decode cX0_moveValve 25 = .ok (.bipush 10, 2) := decs_at DX0_moveValve_0 16 rfl
theorem dX0_moveValve_27 : decode cX0_moveValve 27 = .ok (.goto 15, 3) := decs_at DX0_moveValve_0 17 rfl
theorem dX0_moveValve_30 : decode cX0_moveValve 30 = .ok (.iload_n 3, 1) := decs_at DX0_moveValve_0 18 rfl
theorem dX0_moveValve_31 : decode cX0_moveValve 31 = .ok (.iconst 2, 1) := decs_at DX0_moveValve_0 19 rfl
theorem dX0_moveValve_32 : decode cX0_moveValve 32 = .ok (.if_icmp .ne 8, 3) := decs_at DX0_moveValve_0 20 rfl
theorem dX0_moveValve_35 : decode cX0_moveValve 35 = .ok (.bipush 30, 2) := decs_at DX0_moveValve_0 21 rfl
theorem dX0_moveValve_37 : decode cX0_moveValve 37 = .ok (.goto 5, 3) := decs_at DX0_moveValve_0 22 rfl
theorem dX0_moveValve_40 : decode cX0_moveValve 40 = .ok (.bipush 20, 2) := decs_at DX0_moveValve_0 23 rfl
theorem DX0_moveValve_24 : decs cX0_moveValve [(42, .istore 4, 2), (44, .aload_n 0, 1), (45, .getfield 9, 3), (48, .iload_n 2, 1), (49, .iaload, 1), (50, .aload_n 0, 1), (51, .getfield 18, 3), (54, .iload_n 2, 1), (55, .iaload, 1), (56, .isub, 1), (57, .istore 5, 2), (59, .iload 5, 2), (61, .iload 4, 2), (63, .ineg, 1), (64, .if_icmp .ge 107, 3), (67, .aload_n 1, 1), (68, .getfield 114, 3), (71, .iload_n 2, 1), (72, .iaload, 1), (73, .iconst 2, 1), (74, .if_icmp .eq 97, 3), (77, .iload_n 3, 1), (78, .iconst 1, 1), (79, .if_icmp .ne 8, 3)] := by unfold decs; decide +kernel
theorem dX0_moveValve_42 : decode cX0_moveValve 42 = .ok (.istore 4, 2) := decs_at DX0_moveValve_24 0 rfl
theorem dX0_moveValve_44 : decode cX0_moveValve 44 = .ok (.aload_n 0, 1) := decs_at DX0_moveValve_24 1 rfl
theorem dX0_moveValve_45 : decode cX0_moveValve 45 = .ok (.getfield 9, 3) := decs_at DX0_moveValve_24 2 rfl
theorem dX0_moveValve_48 : decode cX0_moveValve 48 = .ok (.iload_n 2, 1) := decs_at DX0_moveValve_24 3 rfl
theorem dX0_moveValve_49 : decode cX0_moveValve 49 = .ok (.iaload, 1) := decs_at DX0_moveValve_24 4 rfl
theorem dX0_moveValve_50 : decode cX0_moveValve 50 = .ok (.aload_n 0, 1) := decs_at DX0_moveValve_24 5 rfl
theorem dX0_moveValve_51 : decode cX0_moveValve 51 = .ok (.getfield 18, 3) := decs_at DX0_moveValve_24 6 rfl
theorem dX0_moveValve_54 : decode cX0_moveValve 54 = .ok (.iload_n 2, 1) := decs_at DX0_moveValve_24 7 rfl
theorem dX0_moveValve_55 : decode cX0_moveValve 55 = .ok (.iaload, 1) := decs_at DX0_moveValve_24 8 rfl
theorem dX0_moveValve_56 : decode cX0_moveValve 56 = .ok (.isub, 1) := decs_at DX0_moveValve_24 9 rfl
theorem dX0_moveValve_57 : decode cX0_moveValve 57 = .ok (.istore 5, 2) := decs_at DX0_moveValve_24 10 rfl
theorem dX0_moveValve_59 : decode cX0_moveValve 59 = .ok (.iload 5, 2) := decs_at DX0_moveValve_24 11 rfl
theorem dX0_moveValve_61 : decode cX0_moveValve 61 = .ok (.iload 4, 2) := decs_at DX0_moveValve_24 12 rfl
theorem dX0_moveValve_63 : decode cX0_moveValve 63 = .ok (.ineg, 1) := decs_at DX0_moveValve_24 13 rfl
theorem dX0_moveValve_64 : decode cX0_moveValve 64 = .ok (.if_icmp .ge 107, 3) := decs_at DX0_moveValve_24 14 rfl
theorem dX0_moveValve_67 : decode cX0_moveValve 67 = .ok (.aload_n 1, 1) := decs_at DX0_moveValve_24 15 rfl
theorem dX0_moveValve_68 : decode cX0_moveValve 68 = .ok (.getfield 114, 3) := decs_at DX0_moveValve_24 16 rfl
theorem dX0_moveValve_71 : decode cX0_moveValve 71 = .ok (.iload_n 2, 1) := decs_at DX0_moveValve_24 17 rfl
theorem dX0_moveValve_72 : decode cX0_moveValve 72 = .ok (.iaload, 1) := decs_at DX0_moveValve_24 18 rfl
theorem dX0_moveValve_73 : decode cX0_moveValve 73 = .ok (.iconst 2, 1) := decs_at DX0_moveValve_24 19 rfl
theorem dX0_moveValve_74 : decode cX0_moveValve 74 = .ok (.if_icmp .eq 97, 3) := decs_at DX0_moveValve_24 20 rfl
theorem dX0_moveValve_77 : decode cX0_moveValve 77 = .ok (.iload_n 3, 1) := decs_at DX0_moveValve_24 21 rfl
theorem dX0_moveValve_78 : decode cX0_moveValve 78 = .ok (.iconst 1, 1) := decs_at DX0_moveValve_24 22 rfl
theorem dX0_moveValve_79 : decode cX0_moveValve 79 = .ok (.if_icmp .ne 8, 3) := decs_at DX0_moveValve_24 23 rfl
theorem DX0_moveValve_48 : decs cX0_moveValve [(82, .bipush 30, 2), (84, .goto 15, 3), (87, .iload_n 3, 1), (88, .iconst 2, 1), (89, .if_icmp .ne 8, 3), (92, .bipush 12, 2), (94, .goto 5, 3), (97, .bipush 20, 2), (99, .istore 6, 2), (101, .iload 6, 2), (103, .iload 5, 2), (105, .ineg, 1), (106, .invokestatic 99, 3), (109, .istore 7, 2), (111, .aload_n 0, 1), (112, .getfield 18, 3), (115, .iload_n 2, 1), (116, .dup2, 1), (117, .iaload, 1), (118, .iload 7, 2), (120, .isub, 1), (121, .iastore, 1), (122, .aload_n 0, 1), (123, .getfield 21, 3)] := by unfold decs; decide +kernel
theorem dX0_moveValve_82 : decode cX0_moveValve 82 = .ok (.bipush 30, 2) := decs_at DX0_moveValve_48 0 rfl
theorem dX0_moveValve_84 : decode cX0_moveValve 84 = .ok (.goto 15, 3) := decs_at DX0_moveValve_48 1 rfl
theorem dX0_moveValve_87 : decode cX0_moveValve 87 = .ok (.iload_n 3, 1) := decs_at DX0_moveValve_48 2 rfl
theorem dX0_moveValve_88 : decode cX0_moveValve 88 = .ok (.iconst 2, 1) := decs_at DX0_moveValve_48 3 rfl
theorem dX0_moveValve_89 : decode cX0_moveValve 89 = .ok (.if_icmp .ne 8, 3) := decs_at DX0_moveValve_48 4 rfl
theorem dX0_moveValve_92 : decode cX0_moveValve 92 = .ok (.bipush 12, 2) := decs_at DX0_moveValve_48 5 rfl
theorem dX0_moveValve_94 : decode cX0_moveValve 94 = .ok (.goto 5, 3) := decs_at DX0_moveValve_48 6 rfl
theorem dX0_moveValve_97 : decode cX0_moveValve 97 = .ok (.bipush 20, 2) := decs_at DX0_moveValve_48 7 rfl
theorem dX0_moveValve_99 : decode cX0_moveValve 99 = .ok (.istore 6, 2) := decs_at DX0_moveValve_48 8 rfl
theorem dX0_moveValve_101 : decode cX0_moveValve 101 = .ok (.iload 6, 2) := decs_at DX0_moveValve_48 9 rfl
theorem dX0_moveValve_103 : decode cX0_moveValve 103 = .ok (.iload 5, 2) := decs_at DX0_moveValve_48 10 rfl
theorem dX0_moveValve_105 : decode cX0_moveValve 105 = .ok (.ineg, 1) := decs_at DX0_moveValve_48 11 rfl
theorem dX0_moveValve_106 : decode cX0_moveValve 106 = .ok (.invokestatic 99, 3) := decs_at DX0_moveValve_48 12 rfl
theorem dX0_moveValve_109 : decode cX0_moveValve 109 = .ok (.istore 7, 2) := decs_at DX0_moveValve_48 13 rfl
theorem dX0_moveValve_111 : decode cX0_moveValve 111 = .ok (.aload_n 0, 1) := decs_at DX0_moveValve_48 14 rfl
theorem dX0_moveValve_112 : decode cX0_moveValve 112 = .ok (.getfield 18, 3) := decs_at DX0_moveValve_48 15 rfl
theorem dX0_moveValve_115 : decode cX0_moveValve 115 = .ok (.iload_n 2, 1) := decs_at DX0_moveValve_48 16 rfl
theorem dX0_moveValve_116 : decode cX0_moveValve 116 = .ok (.dup2, 1) := decs_at DX0_moveValve_48 17 rfl
theorem dX0_moveValve_117 : decode cX0_moveValve 117 = .ok (.iaload, 1) := decs_at DX0_moveValve_48 18 rfl
theorem dX0_moveValve_118 : decode cX0_moveValve 118 = .ok (.iload 7, 2) := decs_at DX0_moveValve_48 19 rfl
theorem dX0_moveValve_120 : decode cX0_moveValve 120 = .ok (.isub, 1) := decs_at DX0_moveValve_48 20 rfl
theorem dX0_moveValve_121 : decode cX0_moveValve 121 = .ok (.iastore, 1) := decs_at DX0_moveValve_48 21 rfl
theorem dX0_moveValve_122 : decode cX0_moveValve 122 = .ok (.aload_n 0, 1) := decs_at DX0_moveValve_48 22 rfl
theorem dX0_moveValve_123 : decode cX0_moveValve 123 = .ok (.getfield 21, 3) := decs_at DX0_moveValve_48 23 rfl
theorem DX0_moveValve_72 : decs cX0_moveValve [(126, .iload_n 2, 1), (127, .sipush 500, 3), (130, .aload_n 0, 1), (131, .getfield 21, 3), (134, .iload_n 2, 1), (135, .iaload, 1), (136, .iconst 2, 1), (137, .iload 7, 2), (139, .imul, 1), (140, .iadd, 1), (141, .invokestatic 99, 3), (144, .iastore, 1), (145, .iload_n 3, 1), (146, .iconst 1, 1), (147, .if_icmp .ne 22, 3), (150, .aload_n 0, 1), (151, .getfield 9, 3), (154, .iload_n 2, 1), (155, .iconst 0, 1), (156, .aload_n 0, 1), (157, .getfield 9, 3), (160, .iload_n 2, 1), (161, .iaload, 1), (162, .bipush 8, 2)] := by unfold decs; decide +kernel
theorem dX0_moveValve_126 : decode cX0_moveValve 126 = .ok (.iload_n 2, 1) := decs_at DX0_moveValve_72 0 rfl
theorem dX0_moveValve_127 : decode cX0_moveValve 127 = .ok (.sipush 500, 3) := decs_at DX0_moveValve_72 1 rfl
theorem dX0_moveValve_130 : decode cX0_moveValve 130 = .ok (.aload_n 0, 1) := decs_at DX0_moveValve_72 2 rfl
theorem dX0_moveValve_131 : decode cX0_moveValve 131 = .ok (.getfield 21, 3) := decs_at DX0_moveValve_72 3 rfl
theorem dX0_moveValve_134 : decode cX0_moveValve 134 = .ok (.iload_n 2, 1) := decs_at DX0_moveValve_72 4 rfl
theorem dX0_moveValve_135 : decode cX0_moveValve 135 = .ok (.iaload, 1) := decs_at DX0_moveValve_72 5 rfl
theorem dX0_moveValve_136 : decode cX0_moveValve 136 = .ok (.iconst 2, 1) := decs_at DX0_moveValve_72 6 rfl
theorem dX0_moveValve_137 : decode cX0_moveValve 137 = .ok (.iload 7, 2) := decs_at DX0_moveValve_72 7 rfl
theorem dX0_moveValve_139 : decode cX0_moveValve 139 = .ok (.imul, 1) := decs_at DX0_moveValve_72 8 rfl
theorem dX0_moveValve_140 : decode cX0_moveValve 140 = .ok (.iadd, 1) := decs_at DX0_moveValve_72 9 rfl
theorem dX0_moveValve_141 : decode cX0_moveValve 141 = .ok (.invokestatic 99, 3) := decs_at DX0_moveValve_72 10 rfl
theorem dX0_moveValve_144 : decode cX0_moveValve 144 = .ok (.iastore, 1) := decs_at DX0_moveValve_72 11 rfl
theorem dX0_moveValve_145 : decode cX0_moveValve 145 = .ok (.iload_n 3, 1) := decs_at DX0_moveValve_72 12 rfl
theorem dX0_moveValve_146 : decode cX0_moveValve 146 = .ok (.iconst 1, 1) := decs_at DX0_moveValve_72 13 rfl
theorem dX0_moveValve_147 : decode cX0_moveValve 147 = .ok (.if_icmp .ne 22, 3) := decs_at DX0_moveValve_72 14 rfl
theorem dX0_moveValve_150 : decode cX0_moveValve 150 = .ok (.aload_n 0, 1) := decs_at DX0_moveValve_72 15 rfl
theorem dX0_moveValve_151 : decode cX0_moveValve 151 = .ok (.getfield 9, 3) := decs_at DX0_moveValve_72 16 rfl
theorem dX0_moveValve_154 : decode cX0_moveValve 154 = .ok (.iload_n 2, 1) := decs_at DX0_moveValve_72 17 rfl
theorem dX0_moveValve_155 : decode cX0_moveValve 155 = .ok (.iconst 0, 1) := decs_at DX0_moveValve_72 18 rfl
theorem dX0_moveValve_156 : decode cX0_moveValve 156 = .ok (.aload_n 0, 1) := decs_at DX0_moveValve_72 19 rfl
theorem dX0_moveValve_157 : decode cX0_moveValve 157 = .ok (.getfield 9, 3) := decs_at DX0_moveValve_72 20 rfl
theorem dX0_moveValve_160 : decode cX0_moveValve 160 = .ok (.iload_n 2, 1) := decs_at DX0_moveValve_72 21 rfl
theorem dX0_moveValve_161 : decode cX0_moveValve 161 = .ok (.iaload, 1) := decs_at DX0_moveValve_72 22 rfl
theorem dX0_moveValve_162 : decode cX0_moveValve 162 = .ok (.bipush 8, 2) := decs_at DX0_moveValve_72 23 rfl
theorem DX0_moveValve_96 : decs cX0_moveValve [(164, .isub, 1), (165, .invokestatic 105, 3), (168, .iastore, 1), (169, .iconst 1, 1), (170, .ireturn, 1), (171, .iload 5, 2), (173, .iload 4, 2), (175, .if_icmp .le 114, 3), (178, .bipush 100, 2), (180, .aload_n 1, 1), (181, .getfield 117, 3), (184, .iload_n 2, 1), (185, .iaload, 1), (186, .imul, 1), (187, .istore 6, 2), (189, .aload_n 1, 1), (190, .getfield 114, 3), (193, .iload_n 2, 1), (194, .iaload, 1), (195, .iconst 1, 1), (196, .if_icmp .eq 58, 3), (199, .aload_n 0, 1), (200, .getfield 21, 3), (203, .iload_n 2, 1)] := by unfold decs; decide +kernel
theorem dX0_moveValve_164 : decode cX0_moveValve 164 = .ok (.isub, 1) := decs_at DX0_moveValve_96 0 rfl
theorem dX0_moveValve_165 : decode cX0_moveValve 165 = .ok (.invokestatic 105, 3) := decs_at DX0_moveValve_96 1 rfl
theorem dX0_moveValve_168 : decode cX0_moveValve 168 = .ok (.iastore, 1) := decs_at DX0_moveValve_96 2 rfl
theorem dX0_moveValve_169 : decode cX0_moveValve 169 = .ok (.iconst 1, 1) := decs_at DX0_moveValve_96 3 rfl
theorem dX0_moveValve_170 : decode cX0_moveValve 170 = .ok (.ireturn, 1) := decs_at DX0_moveValve_96 4 rfl
theorem dX0_moveValve_171 : decode cX0_moveValve 171 = .ok (.iload 5, 2) := decs_at DX0_moveValve_96 5 rfl
theorem dX0_moveValve_173 : decode cX0_moveValve 173 = .ok (.iload 4, 2) := decs_at DX0_moveValve_96 6 rfl
theorem dX0_moveValve_175 : decode cX0_moveValve 175 = .ok (.if_icmp .le 114, 3) := decs_at DX0_moveValve_96 7 rfl
theorem dX0_moveValve_178 : decode cX0_moveValve 178 = .ok (.bipush 100, 2) := decs_at DX0_moveValve_96 8 rfl
theorem dX0_moveValve_180 : decode cX0_moveValve 180 = .ok (.aload_n 1, 1) := decs_at DX0_moveValve_96 9 rfl
theorem dX0_moveValve_181 : decode cX0_moveValve 181 = .ok (.getfield 117, 3) := decs_at DX0_moveValve_96 10 rfl
theorem dX0_moveValve_184 : decode cX0_moveValve 184 = .ok (.iload_n 2, 1) := decs_at DX0_moveValve_96 11 rfl
theorem dX0_moveValve_185 : decode cX0_moveValve 185 = .ok (.iaload, 1) := decs_at DX0_moveValve_96 12 rfl
theorem dX0_moveValve_186 : decode cX0_moveValve 186 = .ok (.imul, 1) := decs_at DX0_moveValve_96 13 rfl
theorem dX0_moveValve_187 : decode cX0_moveValve 187 = .ok (.istore 6, 2) := decs_at DX0_moveValve_96 14 rfl
theorem dX0_moveValve_189 : decode cX0_moveValve 189 = .ok (.aload_n 1, 1) := decs_at DX0_moveValve_96 15 rfl
theorem dX0_moveValve_190 : decode cX0_moveValve 190 = .ok (.getfield 114, 3) := decs_at DX0_moveValve_96 16 rfl
theorem dX0_moveValve_193 : decode cX0_moveValve 193 = .ok (.iload_n 2, 1) := decs_at DX0_moveValve_96 17 rfl
theorem dX0_moveValve_194 : decode cX0_moveValve 194 = .ok (.iaload, 1) := decs_at DX0_moveValve_96 18 rfl
theorem dX0_moveValve_195 : decode cX0_moveValve 195 = .ok (.iconst 1, 1) := decs_at DX0_moveValve_96 19 rfl
theorem dX0_moveValve_196 : decode cX0_moveValve 196 = .ok (.if_icmp .eq 58, 3) := decs_at DX0_moveValve_96 20 rfl
theorem dX0_moveValve_199 : decode cX0_moveValve 199 = .ok (.aload_n 0, 1) := decs_at DX0_moveValve_96 21 rfl
theorem dX0_moveValve_200 : decode cX0_moveValve 200 = .ok (.getfield 21, 3) := decs_at DX0_moveValve_96 22 rfl
theorem dX0_moveValve_203 : decode cX0_moveValve 203 = .ok (.iload_n 2, 1) := decs_at DX0_moveValve_96 23 rfl
theorem DX0_moveValve_120 : decs cX0_moveValve [(204, .iaload, 1), (205, .iload 6, 2), (207, .if_icmp .le 47, 3), (210, .iload_n 3, 1), (211, .iconst 1, 1), (212, .if_icmp .ne 8, 3), (215, .bipush 40, 2), (217, .goto 15, 3), (220, .iload_n 3, 1), (221, .iconst 2, 1), (222, .if_icmp .ne 8, 3), (225, .bipush 12, 2), (227, .goto 5, 3), (230, .bipush 30, 2), (232, .istore 7, 2), (234, .aload_n 0, 1), (235, .getfield 21, 3), (238, .iload_n 2, 1), (239, .iload 6, 2), (241, .aload_n 0, 1), (242, .getfield 21, 3), (245, .iload_n 2, 1), (246, .iaload, 1), (247, .iload 7, 2)] := by unfold decs; decide +kernel
theorem dX0_moveValve_204 : decode cX0_moveValve 204 = .ok (.iaload, 1) := decs_at DX0_moveValve_120 0 rfl
theorem dX0_moveValve_205 : decode cX0_moveValve 205 = .ok (.iload 6, 2) := decs_at DX0_moveValve_120 1 rfl
theorem dX0_moveValve_207 : decode cX0_moveValve 207 = .ok (.if_icmp .le 47, 3) := decs_at DX0_moveValve_120 2 rfl
theorem dX0_moveValve_210 : decode cX0_moveValve 210 = .ok (.iload_n 3, 1) := decs_at DX0_moveValve_120 3 rfl
theorem dX0_moveValve_211 : decode cX0_moveValve 211 = .ok (.iconst 1, 1) := decs_at DX0_moveValve_120 4 rfl
theorem dX0_moveValve_212 : decode cX0_moveValve 212 = .ok (.if_icmp .ne 8, 3) := decs_at DX0_moveValve_120 5 rfl
theorem dX0_moveValve_215 : decode cX0_moveValve 215 = .ok (.bipush 40, 2) := decs_at DX0_moveValve_120 6 rfl
theorem dX0_moveValve_217 : decode cX0_moveValve 217 = .ok (.goto 15, 3) := decs_at DX0_moveValve_120 7 rfl
theorem dX0_moveValve_220 : decode cX0_moveValve 220 = .ok (.iload_n 3, 1) := decs_at DX0_moveValve_120 8 rfl
theorem dX0_moveValve_221 : decode cX0_moveValve 221 = .ok (.iconst 2, 1) := decs_at DX0_moveValve_120 9 rfl
theorem dX0_moveValve_222 : decode cX0_moveValve 222 = .ok (.if_icmp .ne 8, 3) := decs_at DX0_moveValve_120 10 rfl
theorem dX0_moveValve_225 : decode cX0_moveValve 225 = .ok (.bipush 12, 2) := decs_at DX0_moveValve_120 11 rfl
theorem dX0_moveValve_227 : decode cX0_moveValve 227 = .ok (.goto 5, 3) := decs_at DX0_moveValve_120 12 rfl
theorem dX0_moveValve_230 : decode cX0_moveValve 230 = .ok (.bipush 30, 2) := decs_at DX0_moveValve_120 13 rfl
theorem dX0_moveValve_232 : decode cX0_moveValve 232 = .ok (.istore 7, 2) := decs_at DX0_moveValve_120 14 rfl
theorem dX0_moveValve_234 : decode cX0_moveValve 234 = .ok (.aload_n 0, 1) := decs_at DX0_moveValve_120 15 rfl
theorem dX0_moveValve_235 : decode cX0_moveValve 235 = .ok (.getfield 21, 3) := decs_at DX0_moveValve_120 16 rfl
theorem dX0_moveValve_238 : decode cX0_moveValve 238 = .ok (.iload_n 2, 1) := decs_at DX0_moveValve_120 17 rfl
theorem dX0_moveValve_239 : decode cX0_moveValve 239 = .ok (.iload 6, 2) := decs_at DX0_moveValve_120 18 rfl
theorem dX0_moveValve_241 : decode cX0_moveValve 241 = .ok (.aload_n 0, 1) := decs_at DX0_moveValve_120 19 rfl
theorem dX0_moveValve_242 : decode cX0_moveValve 242 = .ok (.getfield 21, 3) := decs_at DX0_moveValve_120 20 rfl
theorem dX0_moveValve_245 : decode cX0_moveValve 245 = .ok (.iload_n 2, 1) := decs_at DX0_moveValve_120 21 rfl
theorem dX0_moveValve_246 : decode cX0_moveValve 246 = .ok (.iaload, 1) := decs_at DX0_moveValve_120 22 rfl
theorem dX0_moveValve_247 : decode cX0_moveValve 247 = .ok (.iload 7, 2) := decs_at DX0_moveValve_120 23 rfl
theorem DX0_moveValve_144 : decs cX0_moveValve [(249, .isub, 1), (250, .invokestatic 105, 3), (253, .iastore, 1), (254, .bipush 10, 2), (256, .iload 5, 2), (258, .iconst 2, 1), (259, .idiv, 1), (260, .invokestatic 99, 3), (263, .istore 7, 2), (265, .aload_n 0, 1), (266, .getfield 9, 3), (269, .iload_n 2, 1), (270, .dup2, 1), (271, .iaload, 1), (272, .iload 7, 2), (274, .isub, 1), (275, .iastore, 1), (276, .aload_n 0, 1), (277, .getfield 18, 3), (280, .iload_n 2, 1), (281, .dup2, 1), (282, .iaload, 1), (283, .iload 7, 2), (285, .iadd, 1)] := by unfold decs; decide +kernel
theorem dX0_moveValve_249 : decode cX0_moveValve 249 = .ok (.isub, 1) := decs_at DX0_moveValve_144 0 rfl
theorem dX0_moveValve_250 : decode cX0_moveValve 250 = .ok (.invokestatic 105, 3) := decs_at DX0_moveValve_144 1 rfl
theorem dX0_moveValve_253 : decode cX0_moveValve 253 = .ok (.iastore, 1) := decs_at DX0_moveValve_144 2 rfl
theorem dX0_moveValve_254 : decode cX0_moveValve 254 = .ok (.bipush 10, 2) := decs_at DX0_moveValve_144 3 rfl
theorem dX0_moveValve_256 : decode cX0_moveValve 256 = .ok (.iload 5, 2) := decs_at DX0_moveValve_144 4 rfl
theorem dX0_moveValve_258 : decode cX0_moveValve 258 = .ok (.iconst 2, 1) := decs_at DX0_moveValve_144 5 rfl
theorem dX0_moveValve_259 : decode cX0_moveValve 259 = .ok (.idiv, 1) := decs_at DX0_moveValve_144 6 rfl
theorem dX0_moveValve_260 : decode cX0_moveValve 260 = .ok (.invokestatic 99, 3) := decs_at DX0_moveValve_144 7 rfl
theorem dX0_moveValve_263 : decode cX0_moveValve 263 = .ok (.istore 7, 2) := decs_at DX0_moveValve_144 8 rfl
theorem dX0_moveValve_265 : decode cX0_moveValve 265 = .ok (.aload_n 0, 1) := decs_at DX0_moveValve_144 9 rfl
theorem dX0_moveValve_266 : decode cX0_moveValve 266 = .ok (.getfield 9, 3) := decs_at DX0_moveValve_144 10 rfl
theorem dX0_moveValve_269 : decode cX0_moveValve 269 = .ok (.iload_n 2, 1) := decs_at DX0_moveValve_144 11 rfl
theorem dX0_moveValve_270 : decode cX0_moveValve 270 = .ok (.dup2, 1) := decs_at DX0_moveValve_144 12 rfl
theorem dX0_moveValve_271 : decode cX0_moveValve 271 = .ok (.iaload, 1) := decs_at DX0_moveValve_144 13 rfl
theorem dX0_moveValve_272 : decode cX0_moveValve 272 = .ok (.iload 7, 2) := decs_at DX0_moveValve_144 14 rfl
theorem dX0_moveValve_274 : decode cX0_moveValve 274 = .ok (.isub, 1) := decs_at DX0_moveValve_144 15 rfl
theorem dX0_moveValve_275 : decode cX0_moveValve 275 = .ok (.iastore, 1) := decs_at DX0_moveValve_144 16 rfl
theorem dX0_moveValve_276 : decode cX0_moveValve 276 = .ok (.aload_n 0, 1) := decs_at DX0_moveValve_144 17 rfl
theorem dX0_moveValve_277 : decode cX0_moveValve 277 = .ok (.getfield 18, 3) := decs_at DX0_moveValve_144 18 rfl
theorem dX0_moveValve_280 : decode cX0_moveValve 280 = .ok (.iload_n 2, 1) := decs_at DX0_moveValve_144 19 rfl
theorem dX0_moveValve_281 : decode cX0_moveValve 281 = .ok (.dup2, 1) := decs_at DX0_moveValve_144 20 rfl
theorem dX0_moveValve_282 : decode cX0_moveValve 282 = .ok (.iaload, 1) := decs_at DX0_moveValve_144 21 rfl
theorem dX0_moveValve_283 : decode cX0_moveValve 283 = .ok (.iload 7, 2) := decs_at DX0_moveValve_144 22 rfl
theorem dX0_moveValve_285 : decode cX0_moveValve 285 = .ok (.iadd, 1) := decs_at DX0_moveValve_144 23 rfl
theorem DX0_moveValve_168 : decs cX0_moveValve [(286, .iastore, 1), (287, .iconst 1, 1), (288, .ireturn, 1), (289, .iconst 0, 1), (290, .ireturn, 1)] := by unfold decs; decide +kernel
theorem dX0_moveValve_286 : decode cX0_moveValve 286 = .ok (.iastore, 1) := decs_at DX0_moveValve_168 0 rfl
theorem dX0_moveValve_287 : decode cX0_moveValve 287 = .ok (.iconst 1, 1) := decs_at DX0_moveValve_168 1 rfl
theorem dX0_moveValve_288 : decode cX0_moveValve 288 = .ok (.ireturn, 1) := decs_at DX0_moveValve_168 2 rfl
theorem dX0_moveValve_289 : decode cX0_moveValve 289 = .ok (.iconst 0, 1) := decs_at DX0_moveValve_168 3 rfl
theorem dX0_moveValve_290 : decode cX0_moveValve 290 = .ok (.ireturn, 1) := decs_at DX0_moveValve_168 4 rfl
theorem DX0_samePressure_0 : decs cX0_samePressure [(0, .iconst 0, 1), (1, .istore_n 2, 1), (2, .iload_n 2, 1), (3, .iload_n 1, 1), (4, .if_icmp .gt 32, 3), (7, .iload_n 2, 1), (8, .bipush 17, 2), (10, .if_icmp .ge 26, 3), (13, .aload_n 0, 1), (14, .getfield 9, 3), (17, .iload_n 2, 1), (18, .iaload, 1), (19, .aload_n 0, 1), (20, .getfield 15, 3), (23, .iload_n 2, 1), (24, .iaload, 1), (25, .if_icmp .eq 5, 3), (28, .iconst 0, 1), (29, .ireturn, 1), (30, .iinc 2 1, 3), (33, .goto (-31), 3), (36, .iconst 1, 1), (37, .ireturn, 1)] := by unfold decs; decide +kernel
theorem dX0_samePressure_0 : decode cX0_samePressure 0 = .ok (.iconst 0, 1) := decs_at DX0_samePressure_0 0 rfl
theorem dX0_samePressure_1 : decode cX0_samePressure 1 = .ok (.istore_n 2, 1) := decs_at DX0_samePressure_0 1 rfl
theorem dX0_samePressure_2 : decode cX0_samePressure 2 = .ok (.iload_n 2, 1) := decs_at DX0_samePressure_0 2 rfl
theorem dX0_samePressure_3 : decode cX0_samePressure 3 = .ok (.iload_n 1, 1) := decs_at DX0_samePressure_0 3 rfl
theorem dX0_samePressure_4 : decode cX0_samePressure 4 = .ok (.if_icmp .gt 32, 3) := decs_at DX0_samePressure_0 4 rfl
theorem dX0_samePressure_7 : decode cX0_samePressure 7 = .ok (.iload_n 2, 1) := decs_at DX0_samePressure_0 5 rfl
theorem dX0_samePressure_8 : decode cX0_samePressure 8 = .ok (.bipush 17, 2) := decs_at DX0_samePressure_0 6 rfl
theorem dX0_samePressure_10 : decode cX0_samePressure 10 = .ok (.if_icmp .ge 26, 3) := decs_at DX0_samePressure_0 7 rfl
theorem dX0_samePressure_13 : decode cX0_samePressure 13 = .ok (.aload_n 0, 1) := decs_at DX0_samePressure_0 8 rfl
theorem dX0_samePressure_14 : decode cX0_samePressure 14 = .ok (.getfield 9, 3) := decs_at DX0_samePressure_0 9 rfl
theorem dX0_samePressure_17 : decode cX0_samePressure 17 = .ok (.iload_n 2, 1) := decs_at DX0_samePressure_0 10 rfl
theorem dX0_samePressure_18 : decode cX0_samePressure 18 = .ok (.iaload, 1) := decs_at DX0_samePressure_0 11 rfl
theorem dX0_samePressure_19 : decode cX0_samePressure 19 = .ok (.aload_n 0, 1) := decs_at DX0_samePressure_0 12 rfl
theorem dX0_samePressure_20 : decode cX0_samePressure 20 = .ok (.getfield 15, 3) := decs_at DX0_samePressure_0 13 rfl
theorem dX0_samePressure_23 : decode cX0_samePressure 23 = .ok (.iload_n 2, 1) := decs_at DX0_samePressure_0 14 rfl
theorem dX0_samePressure_24 : decode cX0_samePressure 24 = .ok (.iaload, 1) := decs_at DX0_samePressure_0 15 rfl
theorem dX0_samePressure_25 : decode cX0_samePressure 25 = .ok (.if_icmp .eq 5, 3) := decs_at DX0_samePressure_0 16 rfl
theorem dX0_samePressure_28 : decode cX0_samePressure 28 = .ok (.iconst 0, 1) := decs_at DX0_samePressure_0 17 rfl
theorem dX0_samePressure_29 : decode cX0_samePressure 29 = .ok (.ireturn, 1) := decs_at DX0_samePressure_0 18 rfl
theorem dX0_samePressure_30 : decode cX0_samePressure 30 = .ok (.iinc 2 1, 3) := decs_at DX0_samePressure_0 19 rfl
theorem dX0_samePressure_33 : decode cX0_samePressure 33 = .ok (.goto (-31), 3) := decs_at DX0_samePressure_0 20 rfl
theorem dX0_samePressure_36 : decode cX0_samePressure 36 = .ok (.iconst 1, 1) := decs_at DX0_samePressure_0 21 rfl
theorem dX0_samePressure_37 : decode cX0_samePressure 37 = .ok (.ireturn, 1) := decs_at DX0_samePressure_0 22 rfl
theorem DX6_start_0 : decs cX6_start [(0, .aload_n 0, 1), (1, .iload_n 1, 1), (2, .putfield 9, 3), (5, .aload_n 0, 1), (6, .iload_n 3, 1), (7, .putfield 15, 3), (10, .aload_n 0, 1), (11, .iconst 0, 1), (12, .putfield 18, 3), (15, .aload_n 0, 1), (16, .iconst 0, 1), (17, .putfield 21, 3), (20, .aload_n 0, 1), (21, .iload_n 2, 1), (22, .putfield 24, 3), (25, .aload_n 0, 1), (26, .iconst 0, 1), (27, .putfield 27, 3), (30, .aload_n 0, 1), (31, .iload_n 2, 1), (32, .putfield 30, 3), (35, .return_, 1)] := by unfold decs; decide +kernel
theorem dX6_start_0 : decode cX6_start 0 = .ok (.aload_n 0, 1) := decs_at DX6_start_0 0 rfl
theorem dX6_start_1 : decode cX6_start 1 = .ok (.iload_n 1, 1) := decs_at DX6_start_0 1 rfl
theorem dX6_start_2 : decode cX6_start 2 = .ok (.putfield 9, 3) := decs_at DX6_start_0 2 rfl
theorem dX6_start_5 : decode cX6_start 5 = .ok (.aload_n 0, 1) := decs_at DX6_start_0 3 rfl
theorem dX6_start_6 : decode cX6_start 6 = .ok (.iload_n 3, 1) := decs_at DX6_start_0 4 rfl
theorem dX6_start_7 : decode cX6_start 7 = .ok (.putfield 15, 3) := decs_at DX6_start_0 5 rfl
theorem dX6_start_10 : decode cX6_start 10 = .ok (.aload_n 0, 1) := decs_at DX6_start_0 6 rfl
theorem dX6_start_11 : decode cX6_start 11 = .ok (.iconst 0, 1) := decs_at DX6_start_0 7 rfl
theorem dX6_start_12 : decode cX6_start 12 = .ok (.putfield 18, 3) := decs_at DX6_start_0 8 rfl
theorem dX6_start_15 : decode cX6_start 15 = .ok (.aload_n 0, 1) := decs_at DX6_start_0 9 rfl
theorem dX6_start_16 : decode cX6_start 16 = .ok (.iconst 0, 1) := decs_at DX6_start_0 10 rfl
theorem dX6_start_17 : decode cX6_start 17 = .ok (.putfield 21, 3) := decs_at DX6_start_0 11 rfl
theorem dX6_start_20 : decode cX6_start 20 = .ok (.aload_n 0, 1) := decs_at DX6_start_0 12 rfl
theorem dX6_start_21 : decode cX6_start 21 = .ok (.iload_n 2, 1) := decs_at DX6_start_0 13 rfl
theorem dX6_start_22 : decode cX6_start 22 = .ok (.putfield 24, 3) := decs_at DX6_start_0 14 rfl
theorem dX6_start_25 : decode cX6_start 25 = .ok (.aload_n 0, 1) := decs_at DX6_start_0 15 rfl
theorem dX6_start_26 : decode cX6_start 26 = .ok (.iconst 0, 1) := decs_at DX6_start_0 16 rfl
theorem dX6_start_27 : decode cX6_start 27 = .ok (.putfield 27, 3) := decs_at DX6_start_0 17 rfl
theorem dX6_start_30 : decode cX6_start 30 = .ok (.aload_n 0, 1) := decs_at DX6_start_0 18 rfl
theorem dX6_start_31 : decode cX6_start 31 = .ok (.iload_n 2, 1) := decs_at DX6_start_0 19 rfl
theorem dX6_start_32 : decode cX6_start 32 = .ok (.putfield 30, 3) := decs_at DX6_start_0 20 rfl
theorem dX6_start_35 : decode cX6_start 35 = .ok (.return_, 1) := decs_at DX6_start_0 21 rfl
theorem DX6_copyFrom_0 : decs cX6_copyFrom [(0, .aload_n 0, 1), (1, .aload_n 1, 1), (2, .getfield 9, 3), (5, .putfield 9, 3), (8, .aload_n 0, 1), (9, .aload_n 1, 1), (10, .getfield 15, 3), (13, .putfield 15, 3), (16, .aload_n 0, 1), (17, .aload_n 1, 1), (18, .getfield 18, 3), (21, .putfield 18, 3), (24, .aload_n 0, 1), (25, .aload_n 1, 1), (26, .getfield 21, 3), (29, .putfield 21, 3), (32, .aload_n 0, 1), (33, .aload_n 1, 1), (34, .getfield 24, 3), (37, .putfield 24, 3), (40, .aload_n 0, 1), (41, .aload_n 1, 1), (42, .getfield 27, 3), (45, .putfield 27, 3)] := by unfold decs; decide +kernel
theorem dX6_copyFrom_0 : decode cX6_copyFrom 0 = .ok (.aload_n 0, 1) := decs_at DX6_copyFrom_0 0 rfl
theorem dX6_copyFrom_1 : decode cX6_copyFrom 1 = .ok (.aload_n 1, 1) := decs_at DX6_copyFrom_0 1 rfl
theorem dX6_copyFrom_2 : decode cX6_copyFrom 2 = .ok (.getfield 9, 3) := decs_at DX6_copyFrom_0 2 rfl
theorem dX6_copyFrom_5 : decode cX6_copyFrom 5 = .ok (.putfield 9, 3) := decs_at DX6_copyFrom_0 3 rfl
theorem dX6_copyFrom_8 : decode cX6_copyFrom 8 = .ok (.aload_n 0, 1) := decs_at DX6_copyFrom_0 4 rfl
theorem dX6_copyFrom_9 : decode cX6_copyFrom 9 = .ok (.aload_n 1, 1) := decs_at DX6_copyFrom_0 5 rfl
theorem dX6_copyFrom_10 : decode cX6_copyFrom 10 = .ok (.getfield 15, 3) := decs_at DX6_copyFrom_0 6 rfl
theorem dX6_copyFrom_13 : decode cX6_copyFrom 13 = .ok (.putfield 15, 3) := decs_at DX6_copyFrom_0 7 rfl
theorem dX6_copyFrom_16 : decode cX6_copyFrom 16 = .ok (.aload_n 0, 1) := decs_at DX6_copyFrom_0 8 rfl
theorem dX6_copyFrom_17 : decode cX6_copyFrom 17 = .ok (.aload_n 1, 1) := decs_at DX6_copyFrom_0 9 rfl
theorem dX6_copyFrom_18 : decode cX6_copyFrom 18 = .ok (.getfield 18, 3) := decs_at DX6_copyFrom_0 10 rfl
theorem dX6_copyFrom_21 : decode cX6_copyFrom 21 = .ok (.putfield 18, 3) := decs_at DX6_copyFrom_0 11 rfl
theorem dX6_copyFrom_24 : decode cX6_copyFrom 24 = .ok (.aload_n 0, 1) := decs_at DX6_copyFrom_0 12 rfl
theorem dX6_copyFrom_25 : decode cX6_copyFrom 25 = .ok (.aload_n 1, 1) := decs_at DX6_copyFrom_0 13 rfl
theorem dX6_copyFrom_26 : decode cX6_copyFrom 26 = .ok (.getfield 21, 3) := decs_at DX6_copyFrom_0 14 rfl
theorem dX6_copyFrom_29 : decode cX6_copyFrom 29 = .ok (.putfield 21, 3) := decs_at DX6_copyFrom_0 15 rfl
theorem dX6_copyFrom_32 : decode cX6_copyFrom 32 = .ok (.aload_n 0, 1) := decs_at DX6_copyFrom_0 16 rfl
theorem dX6_copyFrom_33 : decode cX6_copyFrom 33 = .ok (.aload_n 1, 1) := decs_at DX6_copyFrom_0 17 rfl
theorem dX6_copyFrom_34 : decode cX6_copyFrom 34 = .ok (.getfield 24, 3) := decs_at DX6_copyFrom_0 18 rfl
theorem dX6_copyFrom_37 : decode cX6_copyFrom 37 = .ok (.putfield 24, 3) := decs_at DX6_copyFrom_0 19 rfl
theorem dX6_copyFrom_40 : decode cX6_copyFrom 40 = .ok (.aload_n 0, 1) := decs_at DX6_copyFrom_0 20 rfl
theorem dX6_copyFrom_41 : decode cX6_copyFrom 41 = .ok (.aload_n 1, 1) := decs_at DX6_copyFrom_0 21 rfl
theorem dX6_copyFrom_42 : decode cX6_copyFrom 42 = .ok (.getfield 27, 3) := decs_at DX6_copyFrom_0 22 rfl
theorem dX6_copyFrom_45 : decode cX6_copyFrom 45 = .ok (.putfield 27, 3) := decs_at DX6_copyFrom_0 23 rfl
theorem DX6_copyFrom_24 : decs cX6_copyFrom [(48, .aload_n 0, 1), (49, .aload_n 1, 1), (50, .getfield 30, 3), (53, .putfield 30, 3), (56, .return_, 1)] := by unfold decs; decide +kernel
theorem dX6_copyFrom_48 : decode cX6_copyFrom 48 = .ok (.aload_n 0, 1) := decs_at DX6_copyFrom_24 0 rfl
theorem dX6_copyFrom_49 : decode cX6_copyFrom 49 = .ok (.aload_n 1, 1) := decs_at DX6_copyFrom_24 1 rfl
theorem dX6_copyFrom_50 : decode cX6_copyFrom 50 = .ok (.getfield 30, 3) := decs_at DX6_copyFrom_24 2 rfl
theorem dX6_copyFrom_53 : decode cX6_copyFrom 53 = .ok (.putfield 30, 3) := decs_at DX6_copyFrom_24 3 rfl
theorem dX6_copyFrom_56 : decode cX6_copyFrom 56 = .ok (.return_, 1) := decs_at DX6_copyFrom_24 4 rfl
theorem DX6_isStopped_0 : decs cX6_isStopped [(0, .aload_n 0, 1), (1, .getfield 24, 3), (4, .ifCond .ne 7, 3), (7, .iconst 1, 1), (8, .goto 4, 3), (11, .iconst 0, 1), (12, .ireturn, 1)] := by unfold decs; decide +kernel
theorem dX6_isStopped_0 : decode cX6_isStopped 0 = .ok (.aload_n 0, 1) := decs_at DX6_isStopped_0 0 rfl
theorem dX6_isStopped_1 : decode cX6_isStopped 1 = .ok (.getfield 24, 3) := decs_at DX6_isStopped_0 1 rfl
theorem dX6_isStopped_4 : decode cX6_isStopped 4 = .ok (.ifCond .ne 7, 3) := decs_at DX6_isStopped_0 2 rfl
theorem dX6_isStopped_7 : decode cX6_isStopped 7 = .ok (.iconst 1, 1) := decs_at DX6_isStopped_0 3 rfl
theorem dX6_isStopped_8 : decode cX6_isStopped 8 = .ok (.goto 4, 3) := decs_at DX6_isStopped_0 4 rfl
theorem dX6_isStopped_11 : decode cX6_isStopped 11 = .ok (.iconst 0, 1) := decs_at DX6_isStopped_0 5 rfl
theorem dX6_isStopped_12 : decode cX6_isStopped 12 = .ok (.ireturn, 1) := decs_at DX6_isStopped_0 6 rfl
theorem DX6_isWithin_0 : decs cX6_isWithin [(0, .aload_n 0, 1), (1, .getfield 21, 3), (4, .iload_n 1, 1), (5, .if_icmp .gt 7, 3), (8, .iconst 1, 1), (9, .goto 4, 3), (12, .iconst 0, 1), (13, .ireturn, 1)] := by unfold decs; decide +kernel
theorem dX6_isWithin_0 : decode cX6_isWithin 0 = .ok (.aload_n 0, 1) := decs_at DX6_isWithin_0 0 rfl
theorem dX6_isWithin_1 : decode cX6_isWithin 1 = .ok (.getfield 21, 3) := decs_at DX6_isWithin_0 1 rfl
theorem dX6_isWithin_4 : decode cX6_isWithin 4 = .ok (.iload_n 1, 1) := decs_at DX6_isWithin_0 2 rfl
theorem dX6_isWithin_5 : decode cX6_isWithin 5 = .ok (.if_icmp .gt 7, 3) := decs_at DX6_isWithin_0 3 rfl
theorem dX6_isWithin_8 : decode cX6_isWithin 8 = .ok (.iconst 1, 1) := decs_at DX6_isWithin_0 4 rfl
theorem dX6_isWithin_9 : decode cX6_isWithin 9 = .ok (.goto 4, 3) := decs_at DX6_isWithin_0 5 rfl
theorem dX6_isWithin_12 : decode cX6_isWithin 12 = .ok (.iconst 0, 1) := decs_at DX6_isWithin_0 6 rfl
theorem dX6_isWithin_13 : decode cX6_isWithin 13 = .ok (.ireturn, 1) := decs_at DX6_isWithin_0 7 rfl
theorem DX6_roll_0 : decs cX6_roll [(0, .aload_n 0, 1), (1, .getfield 27, 3), (4, .ifCond .eq 10, 3), (7, .aload_n 2, 1), (8, .getfield 33, 3), (11, .ifCond .ne 13, 3), (14, .aload_n 0, 1), (15, .aload_n 0, 1), (16, .aload_n 1, 1), (17, .aload_n 2, 1), (18, .invokevirtual 39, 3), (21, .putfield 18, 3), (24, .aload_n 0, 1), (25, .dup, 1), (26, .getfield 27, 3), (29, .iconst 1, 1), (30, .iadd, 1), (31, .putfield 27, 3), (34, .aload_n 0, 1), (35, .iconst 0, 1), (36, .aload_n 0, 1), (37, .getfield 24, 3), (40, .aload_n 0, 1), (41, .getfield 18, 3)] := by unfold decs; decide +kernel
theorem dX6_roll_0 : decode cX6_roll 0 = .ok (.aload_n 0, 1) := decs_at DX6_roll_0 0 rfl
theorem dX6_roll_1 : decode cX6_roll 1 = .ok (.getfield 27, 3) := decs_at DX6_roll_0 1 rfl
theorem dX6_roll_4 : decode cX6_roll 4 = .ok (.ifCond .eq 10, 3) := decs_at DX6_roll_0 2 rfl
theorem dX6_roll_7 : decode cX6_roll 7 = .ok (.aload_n 2, 1) := decs_at DX6_roll_0 3 rfl
theorem dX6_roll_8 : decode cX6_roll 8 = .ok (.getfield 33, 3) := decs_at DX6_roll_0 4 rfl
theorem dX6_roll_11 : decode cX6_roll 11 = .ok (.ifCond .ne 13, 3) := decs_at DX6_roll_0 5 rfl
theorem dX6_roll_14 : decode cX6_roll 14 = .ok (.aload_n 0, 1) := decs_at DX6_roll_0 6 rfl
theorem dX6_roll_15 : decode cX6_roll 15 = .ok (.aload_n 0, 1) := decs_at DX6_roll_0 7 rfl
theorem dX6_roll_16 : decode cX6_roll 16 = .ok (.aload_n 1, 1) := decs_at DX6_roll_0 8 rfl
theorem dX6_roll_17 : decode cX6_roll 17 = .ok (.aload_n 2, 1) := decs_at DX6_roll_0 9 rfl
theorem dX6_roll_18 : decode cX6_roll 18 = .ok (.invokevirtual 39, 3) := decs_at DX6_roll_0 10 rfl
theorem dX6_roll_21 : decode cX6_roll 21 = .ok (.putfield 18, 3) := decs_at DX6_roll_0 11 rfl
theorem dX6_roll_24 : decode cX6_roll 24 = .ok (.aload_n 0, 1) := decs_at DX6_roll_0 12 rfl
theorem dX6_roll_25 : decode cX6_roll 25 = .ok (.dup, 1) := decs_at DX6_roll_0 13 rfl
theorem dX6_roll_26 : decode cX6_roll 26 = .ok (.getfield 27, 3) := decs_at DX6_roll_0 14 rfl
theorem dX6_roll_29 : decode cX6_roll 29 = .ok (.iconst 1, 1) := decs_at DX6_roll_0 15 rfl
theorem dX6_roll_30 : decode cX6_roll 30 = .ok (.iadd, 1) := decs_at DX6_roll_0 16 rfl
theorem dX6_roll_31 : decode cX6_roll 31 = .ok (.putfield 27, 3) := decs_at DX6_roll_0 17 rfl
theorem dX6_roll_34 : decode cX6_roll 34 = .ok (.aload_n 0, 1) := decs_at DX6_roll_0 18 rfl
theorem dX6_roll_35 : decode cX6_roll 35 = .ok (.iconst 0, 1) := decs_at DX6_roll_0 19 rfl
theorem dX6_roll_36 : decode cX6_roll 36 = .ok (.aload_n 0, 1) := decs_at DX6_roll_0 20 rfl
theorem dX6_roll_37 : decode cX6_roll 37 = .ok (.getfield 24, 3) := decs_at DX6_roll_0 21 rfl
theorem dX6_roll_40 : decode cX6_roll 40 = .ok (.aload_n 0, 1) := decs_at DX6_roll_0 22 rfl
theorem dX6_roll_41 : decode cX6_roll 41 = .ok (.getfield 18, 3) := decs_at DX6_roll_0 23 rfl
theorem DX6_roll_24 : decs cX6_roll [(44, .iadd, 1), (45, .invokestatic 43, 3), (48, .putfield 24, 3), (51, .aload_n 0, 1), (52, .aload_n 0, 1), (53, .getfield 30, 3), (56, .aload_n 0, 1), (57, .getfield 24, 3), (60, .invokestatic 43, 3), (63, .putfield 30, 3), (66, .aload_n 0, 1), (67, .dup, 1), (68, .getfield 21, 3), (71, .aload_n 0, 1), (72, .getfield 24, 3), (75, .iadd, 1), (76, .putfield 21, 3), (79, .return_, 1)] := by unfold decs; decide +kernel
theorem dX6_roll_44 : decode cX6_roll 44 = .ok (.iadd, 1) := decs_at DX6_roll_24 0 rfl
theorem dX6_roll_45 : decode cX6_roll 45 = .ok (.invokestatic 43, 3) := decs_at DX6_roll_24 1 rfl
theorem dX6_roll_48 : decode cX6_roll 48 = .ok (.putfield 24, 3) := decs_at DX6_roll_24 2 rfl
theorem dX6_roll_51 : decode cX6_roll 51 = .ok (.aload_n 0, 1) := decs_at DX6_roll_24 3 rfl
theorem dX6_roll_52 : decode cX6_roll 52 = .ok (.aload_n 0, 1) := decs_at DX6_roll_24 4 rfl
theorem dX6_roll_53 : decode cX6_roll 53 = .ok (.getfield 30, 3) := decs_at DX6_roll_24 5 rfl
theorem dX6_roll_56 : decode cX6_roll 56 = .ok (.aload_n 0, 1) := decs_at DX6_roll_24 6 rfl
theorem dX6_roll_57 : decode cX6_roll 57 = .ok (.getfield 24, 3) := decs_at DX6_roll_24 7 rfl
theorem dX6_roll_60 : decode cX6_roll 60 = .ok (.invokestatic 43, 3) := decs_at DX6_roll_24 8 rfl
theorem dX6_roll_63 : decode cX6_roll 63 = .ok (.putfield 30, 3) := decs_at DX6_roll_24 9 rfl
theorem dX6_roll_66 : decode cX6_roll 66 = .ok (.aload_n 0, 1) := decs_at DX6_roll_24 10 rfl
theorem dX6_roll_67 : decode cX6_roll 67 = .ok (.dup, 1) := decs_at DX6_roll_24 11 rfl
theorem dX6_roll_68 : decode cX6_roll 68 = .ok (.getfield 21, 3) := decs_at DX6_roll_24 12 rfl
theorem dX6_roll_71 : decode cX6_roll 71 = .ok (.aload_n 0, 1) := decs_at DX6_roll_24 13 rfl
theorem dX6_roll_72 : decode cX6_roll 72 = .ok (.getfield 24, 3) := decs_at DX6_roll_24 14 rfl
theorem dX6_roll_75 : decode cX6_roll 75 = .ok (.iadd, 1) := decs_at DX6_roll_24 15 rfl
theorem dX6_roll_76 : decode cX6_roll 76 = .ok (.putfield 21, 3) := decs_at DX6_roll_24 16 rfl
theorem dX6_roll_79 : decode cX6_roll 79 = .ok (.return_, 1) := decs_at DX6_roll_24 17 rfl
theorem DX6_gainBy_0 : decs cX6_gainBy [(0, .aload_n 1, 1), (1, .invokevirtual 49, 3), (4, .istore_n 3, 1), (5, .iconst 0, 1), (6, .istore 4, 2), (8, .iconst 1, 1), (9, .istore 5, 2), (11, .iload 5, 2), (13, .aload_n 1, 1), (14, .getfield 55, 3), (17, .if_icmp .gt 49, 3), (20, .iload 5, 2), (22, .bipush 17, 2), (24, .if_icmp .ge 42, 3), (27, .aload_n 1, 1), (28, .getfield 58, 3), (31, .iload 5, 2), (33, .iaload, 1), (34, .ifCond .ne 26, 3), (37, .iload 4, 2), (39, .aload_n 2, 1), (40, .getfield 62, 3), (43, .iload 5, 2), (45, .iaload, 1)] := by unfold decs; decide +kernel
theorem dX6_gainBy_0 : decode cX6_gainBy 0 = .ok (.aload_n 1, 1) := decs_at DX6_gainBy_0 0 rfl
theorem dX6_gainBy_1 : decode cX6_gainBy 1 = .ok (.invokevirtual 49, 3) := decs_at DX6_gainBy_0 1 rfl
theorem dX6_gainBy_4 : decode cX6_gainBy 4 = .ok (.istore_n 3, 1) := decs_at DX6_gainBy_0 2 rfl
theorem dX6_gainBy_5 : decode cX6_gainBy 5 = .ok (.iconst 0, 1) := decs_at DX6_gainBy_0 3 rfl
theorem dX6_gainBy_6 : decode cX6_gainBy 6 = .ok (.istore 4, 2) := decs_at DX6_gainBy_0 4 rfl
theorem dX6_gainBy_8 : decode cX6_gainBy 8 = .ok (.iconst 1, 1) := decs_at DX6_gainBy_0 5 rfl
theorem dX6_gainBy_9 : decode cX6_gainBy 9 = .ok (.istore 5, 2) := decs_at DX6_gainBy_0 6 rfl
theorem dX6_gainBy_11 : decode cX6_gainBy 11 = .ok (.iload 5, 2) := decs_at DX6_gainBy_0 7 rfl
theorem dX6_gainBy_13 : decode cX6_gainBy 13 = .ok (.aload_n 1, 1) := decs_at DX6_gainBy_0 8 rfl
theorem dX6_gainBy_14 : decode cX6_gainBy 14 = .ok (.getfield 55, 3) := decs_at DX6_gainBy_0 9 rfl
theorem dX6_gainBy_17 : decode cX6_gainBy 17 = .ok (.if_icmp .gt 49, 3) := decs_at DX6_gainBy_0 10 rfl
theorem dX6_gainBy_20 : decode cX6_gainBy 20 = .ok (.iload 5, 2) := decs_at DX6_gainBy_0 11 rfl
theorem dX6_gainBy_22 : decode cX6_gainBy 22 = .ok (.bipush 17, 2) := decs_at DX6_gainBy_0 12 rfl
theorem dX6_gainBy_24 : decode cX6_gainBy 24 = .ok (.if_icmp .ge 42, 3) := decs_at DX6_gainBy_0 13 rfl
theorem dX6_gainBy_27 : decode cX6_gainBy 27 = .ok (.aload_n 1, 1) := decs_at DX6_gainBy_0 14 rfl
theorem dX6_gainBy_28 : decode cX6_gainBy 28 = .ok (.getfield 58, 3) := decs_at DX6_gainBy_0 15 rfl
theorem dX6_gainBy_31 : decode cX6_gainBy 31 = .ok (.iload 5, 2) := decs_at DX6_gainBy_0 16 rfl
theorem dX6_gainBy_33 : decode cX6_gainBy 33 = .ok (.iaload, 1) := decs_at DX6_gainBy_0 17 rfl
theorem dX6_gainBy_34 : decode cX6_gainBy 34 = .ok (.ifCond .ne 26, 3) := decs_at DX6_gainBy_0 18 rfl
theorem dX6_gainBy_37 : decode cX6_gainBy 37 = .ok (.iload 4, 2) := decs_at DX6_gainBy_0 19 rfl
theorem dX6_gainBy_39 : decode cX6_gainBy 39 = .ok (.aload_n 2, 1) := decs_at DX6_gainBy_0 20 rfl
theorem dX6_gainBy_40 : decode cX6_gainBy 40 = .ok (.getfield 62, 3) := decs_at DX6_gainBy_0 21 rfl
theorem dX6_gainBy_43 : decode cX6_gainBy 43 = .ok (.iload 5, 2) := decs_at DX6_gainBy_0 22 rfl
theorem dX6_gainBy_45 : decode cX6_gainBy 45 = .ok (.iaload, 1) := decs_at DX6_gainBy_0 23 rfl
theorem DX6_gainBy_24 : decs cX6_gainBy [(46, .bipush 100, 2), (48, .aload_n 0, 1), (49, .getfield 15, 3), (52, .isub, 1), (53, .imul, 1), (54, .bipush 100, 2), (56, .idiv, 1), (57, .iadd, 1), (58, .istore 4, 2), (60, .iinc 5 1, 3), (63, .goto (-52), 3), (66, .iload_n 3, 1), (67, .ifCond .le 19, 3), (70, .iload_n 3, 1), (71, .aload_n 0, 1), (72, .getfield 9, 3), (75, .imul, 1), (76, .iconst 4, 1), (77, .iload 4, 2), (79, .imul, 1), (80, .isub, 1), (81, .iload_n 3, 1), (82, .idiv, 1), (83, .goto 4, 3)] := by unfold decs; decide +kernel
theorem dX6_gainBy_46 : decode cX6_gainBy 46 = .ok (.bipush 100, 2) := decs_at DX6_gainBy_24 0 rfl
theorem dX6_gainBy_48 : decode cX6_gainBy 48 = .ok (.aload_n 0, 1) := decs_at DX6_gainBy_24 1 rfl
theorem dX6_gainBy_49 : decode cX6_gainBy 49 = .ok (.getfield 15, 3) := decs_at DX6_gainBy_24 2 rfl
theorem dX6_gainBy_52 : decode cX6_gainBy 52 = .ok (.isub, 1) := decs_at DX6_gainBy_24 3 rfl
theorem dX6_gainBy_53 : decode cX6_gainBy 53 = .ok (.imul, 1) := decs_at DX6_gainBy_24 4 rfl
theorem dX6_gainBy_54 : decode cX6_gainBy 54 = .ok (.bipush 100, 2) := decs_at DX6_gainBy_24 5 rfl
theorem dX6_gainBy_56 : decode cX6_gainBy 56 = .ok (.idiv, 1) := decs_at DX6_gainBy_24 6 rfl
theorem dX6_gainBy_57 : decode cX6_gainBy 57 = .ok (.iadd, 1) := decs_at DX6_gainBy_24 7 rfl
theorem dX6_gainBy_58 : decode cX6_gainBy 58 = .ok (.istore 4, 2) := decs_at DX6_gainBy_24 8 rfl
theorem dX6_gainBy_60 : decode cX6_gainBy 60 = .ok (.iinc 5 1, 3) := decs_at DX6_gainBy_24 9 rfl
theorem dX6_gainBy_63 : decode cX6_gainBy 63 = .ok (.goto (-52), 3) := decs_at DX6_gainBy_24 10 rfl
theorem dX6_gainBy_66 : decode cX6_gainBy 66 = .ok (.iload_n 3, 1) := decs_at DX6_gainBy_24 11 rfl
theorem dX6_gainBy_67 : decode cX6_gainBy 67 = .ok (.ifCond .le 19, 3) := decs_at DX6_gainBy_24 12 rfl
theorem dX6_gainBy_70 : decode cX6_gainBy 70 = .ok (.iload_n 3, 1) := decs_at DX6_gainBy_24 13 rfl
theorem dX6_gainBy_71 : decode cX6_gainBy 71 = .ok (.aload_n 0, 1) := decs_at DX6_gainBy_24 14 rfl
theorem dX6_gainBy_72 : decode cX6_gainBy 72 = .ok (.getfield 9, 3) := decs_at DX6_gainBy_24 15 rfl
theorem dX6_gainBy_75 : decode cX6_gainBy 75 = .ok (.imul, 1) := decs_at DX6_gainBy_24 16 rfl
theorem dX6_gainBy_76 : decode cX6_gainBy 76 = .ok (.iconst 4, 1) := decs_at DX6_gainBy_24 17 rfl
theorem dX6_gainBy_77 : decode cX6_gainBy 77 = .ok (.iload 4, 2) := decs_at DX6_gainBy_24 18 rfl
theorem dX6_gainBy_79 : decode cX6_gainBy 79 = .ok (.imul, 1) := decs_at DX6_gainBy_24 19 rfl
theorem dX6_gainBy_80 : decode cX6_gainBy 80 = .ok (.isub, 1) := decs_at DX6_gainBy_24 20 rfl
theorem dX6_gainBy_81 : decode cX6_gainBy 81 = .ok (.iload_n 3, 1) := decs_at DX6_gainBy_24 21 rfl
theorem dX6_gainBy_82 : decode cX6_gainBy 82 = .ok (.idiv, 1) := decs_at DX6_gainBy_24 22 rfl
theorem dX6_gainBy_83 : decode cX6_gainBy 83 = .ok (.goto 4, 3) := decs_at DX6_gainBy_24 23 rfl
theorem DX6_gainBy_48 : decs cX6_gainBy [(86, .iconst 0, 1), (87, .ireturn, 1)] := by unfold decs; decide +kernel
theorem dX6_gainBy_86 : decode cX6_gainBy 86 = .ok (.iconst 0, 1) := decs_at DX6_gainBy_48 0 rfl
theorem dX6_gainBy_87 : decode cX6_gainBy 87 = .ok (.ireturn, 1) := decs_at DX6_gainBy_48 1 rfl
theorem DX6_spanWithin_0 : decs cX6_spanWithin [(0, .iconst 0, 1), (1, .istore 5, 2), (3, .iload 5, 2), (5, .sipush 600, 3), (8, .if_icmp .ge 51, 3), (11, .aload_n 0, 1), (12, .invokevirtual 65, 3), (15, .ifCond .ne 44, 3), (18, .aload_n 0, 1), (19, .getfield 27, 3), (22, .sipush 600, 3), (25, .if_icmp .ge 34, 3), (28, .aload_n 0, 1), (29, .iload_n 1, 1), (30, .invokevirtual 69, 3), (33, .ifCond .ne 6, 3), (36, .goto 23, 3), (39, .aload 4, 2), (41, .aload_n 2, 1), (42, .aload_n 3, 1), (43, .invokevirtual 73, 3), (46, .aload_n 0, 1), (47, .aload_n 2, 1), (48, .aload 4, 2)] := by unfold decs; decide +kernel
theorem dX6_spanWithin_0 : decode cX6_spanWithin 0 = .ok (.iconst 0, 1) := decs_at DX6_spanWithin_0 0 rfl
theorem dX6_spanWithin_1 : decode cX6_spanWithin 1 = .ok (.istore 5, 2) := decs_at DX6_spanWithin_0 1 rfl
theorem dX6_spanWithin_3 : decode cX6_spanWithin 3 = .ok (.iload 5, 2) := decs_at DX6_spanWithin_0 2 rfl
theorem dX6_spanWithin_5 : decode cX6_spanWithin 5 = .ok (.sipush 600, 3) := decs_at DX6_spanWithin_0 3 rfl
theorem dX6_spanWithin_8 : decode cX6_spanWithin 8 = .ok (.if_icmp .ge 51, 3) := decs_at DX6_spanWithin_0 4 rfl
theorem dX6_spanWithin_11 : decode cX6_spanWithin 11 = .ok (.aload_n 0, 1) := decs_at DX6_spanWithin_0 5 rfl
theorem dX6_spanWithin_12 : decode cX6_spanWithin 12 = .ok (.invokevirtual 65, 3) := decs_at DX6_spanWithin_0 6 rfl
theorem dX6_spanWithin_15 : decode cX6_spanWithin 15 = .ok (.ifCond .ne 44, 3) := decs_at DX6_spanWithin_0 7 rfl
theorem dX6_spanWithin_18 : decode cX6_spanWithin 18 = .ok (.aload_n 0, 1) := decs_at DX6_spanWithin_0 8 rfl
theorem dX6_spanWithin_19 : decode cX6_spanWithin 19 = .ok (.getfield 27, 3) := decs_at DX6_spanWithin_0 9 rfl
theorem dX6_spanWithin_22 : decode cX6_spanWithin 22 = .ok (.sipush 600, 3) := decs_at DX6_spanWithin_0 10 rfl
theorem dX6_spanWithin_25 : decode cX6_spanWithin 25 = .ok (.if_icmp .ge 34, 3) := decs_at DX6_spanWithin_0 11 rfl
theorem dX6_spanWithin_28 : decode cX6_spanWithin 28 = .ok (.aload_n 0, 1) := decs_at DX6_spanWithin_0 12 rfl
theorem dX6_spanWithin_29 : decode cX6_spanWithin 29 = .ok (.iload_n 1, 1) := decs_at DX6_spanWithin_0 13 rfl
theorem dX6_spanWithin_30 : decode cX6_spanWithin 30 = .ok (.invokevirtual 69, 3) := decs_at DX6_spanWithin_0 14 rfl
theorem dX6_spanWithin_33 : decode cX6_spanWithin 33 = .ok (.ifCond .ne 6, 3) := decs_at DX6_spanWithin_0 15 rfl
theorem dX6_spanWithin_36 : decode cX6_spanWithin 36 = .ok (.goto 23, 3) := decs_at DX6_spanWithin_0 16 rfl
theorem dX6_spanWithin_39 : decode cX6_spanWithin 39 = .ok (.aload 4, 2) := decs_at DX6_spanWithin_0 17 rfl
theorem dX6_spanWithin_41 : decode cX6_spanWithin 41 = .ok (.aload_n 2, 1) := decs_at DX6_spanWithin_0 18 rfl
theorem dX6_spanWithin_42 : decode cX6_spanWithin 42 = .ok (.aload_n 3, 1) := decs_at DX6_spanWithin_0 19 rfl
theorem dX6_spanWithin_43 : decode cX6_spanWithin 43 = .ok (.invokevirtual 73, 3) := decs_at DX6_spanWithin_0 20 rfl
theorem dX6_spanWithin_46 : decode cX6_spanWithin 46 = .ok (.aload_n 0, 1) := decs_at DX6_spanWithin_0 21 rfl
theorem dX6_spanWithin_47 : decode cX6_spanWithin 47 = .ok (.aload_n 2, 1) := decs_at DX6_spanWithin_0 22 rfl
theorem dX6_spanWithin_48 : decode cX6_spanWithin 48 = .ok (.aload 4, 2) := decs_at DX6_spanWithin_0 23 rfl
theorem DX6_spanWithin_24 : decs cX6_spanWithin [(50, .invokevirtual 77, 3), (53, .iinc 5 1, 3), (56, .goto (-53), 3), (59, .aload_n 0, 1), (60, .invokevirtual 65, 3), (63, .ifCond .eq 18, 3), (66, .aload_n 0, 1), (67, .iload_n 1, 1), (68, .invokevirtual 69, 3), (71, .ifCond .eq 10, 3), (74, .aload_n 0, 1), (75, .getfield 21, 3), (78, .goto 4, 3), (81, .iconst (-1), 1), (82, .ireturn, 1)] := by unfold decs; decide +kernel
theorem dX6_spanWithin_50 : decode cX6_spanWithin 50 = .ok (.invokevirtual 77, 3) := decs_at DX6_spanWithin_24 0 rfl
theorem dX6_spanWithin_53 : decode cX6_spanWithin 53 = .ok (.iinc 5 1, 3) := decs_at DX6_spanWithin_24 1 rfl
theorem dX6_spanWithin_56 : decode cX6_spanWithin 56 = .ok (.goto (-53), 3) := decs_at DX6_spanWithin_24 2 rfl
theorem dX6_spanWithin_59 : decode cX6_spanWithin 59 = .ok (.aload_n 0, 1) := decs_at DX6_spanWithin_24 3 rfl
theorem dX6_spanWithin_60 : decode cX6_spanWithin 60 = .ok (.invokevirtual 65, 3) := decs_at DX6_spanWithin_24 4 rfl
theorem dX6_spanWithin_63 : decode cX6_spanWithin 63 = .ok (.ifCond .eq 18, 3) := decs_at DX6_spanWithin_24 5 rfl
theorem dX6_spanWithin_66 : decode cX6_spanWithin 66 = .ok (.aload_n 0, 1) := decs_at DX6_spanWithin_24 6 rfl
theorem dX6_spanWithin_67 : decode cX6_spanWithin 67 = .ok (.iload_n 1, 1) := decs_at DX6_spanWithin_24 7 rfl
theorem dX6_spanWithin_68 : decode cX6_spanWithin 68 = .ok (.invokevirtual 69, 3) := decs_at DX6_spanWithin_24 8 rfl
theorem dX6_spanWithin_71 : decode cX6_spanWithin 71 = .ok (.ifCond .eq 10, 3) := decs_at DX6_spanWithin_24 9 rfl
theorem dX6_spanWithin_74 : decode cX6_spanWithin 74 = .ok (.aload_n 0, 1) := decs_at DX6_spanWithin_24 10 rfl
theorem dX6_spanWithin_75 : decode cX6_spanWithin 75 = .ok (.getfield 21, 3) := decs_at DX6_spanWithin_24 11 rfl
theorem dX6_spanWithin_78 : decode cX6_spanWithin 78 = .ok (.goto 4, 3) := decs_at DX6_spanWithin_24 12 rfl
theorem dX6_spanWithin_81 : decode cX6_spanWithin 81 = .ok (.iconst (-1), 1) := decs_at DX6_spanWithin_24 13 rfl
theorem dX6_spanWithin_82 : decode cX6_spanWithin 82 = .ok (.ireturn, 1) := decs_at DX6_spanWithin_24 14 rfl
