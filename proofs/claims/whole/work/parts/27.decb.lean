theorem DX1_rowOf_0 : decs cX1_rowOf [(0, .aload_n 1, 1), (1, .getfield 33, 3), (4, .iconst 1, 1), (5, .if_icmp .lt 12, 3), (8, .aload_n 1, 1), (9, .getfield 33, 3), (12, .bipush 16, 2), (14, .if_icmp .le 5, 3), (17, .lconst 0, 1), (18, .lreturn, 1), (19, .lconst 0, 1), (20, .lstore_n 2, 1), (21, .iconst 0, 1), (22, .istore 4, 2), (24, .iload 4, 2), (26, .aload_n 1, 1), (27, .getfield 33, 3), (30, .if_icmp .ge 43, 3), (33, .aload_n 1, 1), (34, .iload 4, 2), (36, .invokevirtual 38, 3), (39, .istore 5, 2), (41, .iload 5, 2), (43, .invokestatic 42, 3)] := by unfold decs; decide +kernel
theorem dX1_rowOf_0 : decode cX1_rowOf 0 = .ok (.aload_n 1, 1) := decs_at DX1_rowOf_0 0 rfl
theorem dX1_rowOf_1 : decode cX1_rowOf 1 = .ok (.getfield 33, 3) := decs_at DX1_rowOf_0 1 rfl
theorem dX1_rowOf_4 : decode cX1_rowOf 4 = .ok (.iconst 1, 1) := decs_at DX1_rowOf_0 2 rfl
theorem dX1_rowOf_5 : decode cX1_rowOf 5 = .ok (.if_icmp .lt 12, 3) := decs_at DX1_rowOf_0 3 rfl
theorem dX1_rowOf_8 : decode cX1_rowOf 8 = .ok (.aload_n 1, 1) := decs_at DX1_rowOf_0 4 rfl
theorem dX1_rowOf_9 : decode cX1_rowOf 9 = .ok (.getfield 33, 3) := decs_at DX1_rowOf_0 5 rfl
theorem dX1_rowOf_12 : decode cX1_rowOf 12 = .ok (.bipush 16, 2) := decs_at DX1_rowOf_0 6 rfl
theorem dX1_rowOf_14 : decode cX1_rowOf 14 = .ok (.if_icmp .le 5, 3) := decs_at DX1_rowOf_0 7 rfl
theorem dX1_rowOf_17 : decode cX1_rowOf 17 = .ok (.lconst 0, 1) := decs_at DX1_rowOf_0 8 rfl
theorem dX1_rowOf_18 : decode cX1_rowOf 18 = .ok (.lreturn, 1) := decs_at DX1_rowOf_0 9 rfl
theorem dX1_rowOf_19 : decode cX1_rowOf 19 = .ok (.lconst 0, 1) := decs_at DX1_rowOf_0 10 rfl
theorem dX1_rowOf_20 : decode cX1_rowOf 20 = .ok (.lstore_n 2, 1) := decs_at DX1_rowOf_0 11 rfl
theorem dX1_rowOf_21 : decode cX1_rowOf 21 = .ok (.iconst 0, 1) := decs_at DX1_rowOf_0 12 rfl
theorem dX1_rowOf_22 : decode cX1_rowOf 22 = .ok (.istore 4, 2) := decs_at DX1_rowOf_0 13 rfl
theorem dX1_rowOf_24 : decode cX1_rowOf 24 = .ok (.iload 4, 2) := decs_at DX1_rowOf_0 14 rfl
theorem dX1_rowOf_26 : decode cX1_rowOf 26 = .ok (.aload_n 1, 1) := decs_at DX1_rowOf_0 15 rfl
theorem dX1_rowOf_27 : decode cX1_rowOf 27 = .ok (.getfield 33, 3) := decs_at DX1_rowOf_0 16 rfl
theorem dX1_rowOf_30 : decode cX1_rowOf 30 = .ok (.if_icmp .ge 43, 3) := decs_at DX1_rowOf_0 17 rfl
theorem dX1_rowOf_33 : decode cX1_rowOf 33 = .ok (.aload_n 1, 1) := decs_at DX1_rowOf_0 18 rfl
theorem dX1_rowOf_34 : decode cX1_rowOf 34 = .ok (.iload 4, 2) := decs_at DX1_rowOf_0 19 rfl
theorem dX1_rowOf_36 : decode cX1_rowOf 36 = .ok (.invokevirtual 38, 3) := decs_at DX1_rowOf_0 20 rfl
theorem dX1_rowOf_39 : decode cX1_rowOf 39 = .ok (.istore 5, 2) := decs_at DX1_rowOf_0 21 rfl
theorem dX1_rowOf_41 : decode cX1_rowOf 41 = .ok (.iload 5, 2) := decs_at DX1_rowOf_0 22 rfl
theorem dX1_rowOf_43 : decode cX1_rowOf 43 = .ok (.invokestatic 42, 3) := decs_at DX1_rowOf_0 23 rfl
theorem DX1_rowOf_24 : decs cX1_rowOf [(46, .ifCond .eq 12, 3), (49, .lload_n 2, 1), (50, .iload 5, 2), (52, .invokestatic 46, 3), (55, .ifCond .eq 5, 3), (58, .lconst 0, 1), (59, .lreturn, 1), (60, .lload_n 2, 1), (61, .lconst 1, 1), (62, .iload 5, 2), (64, .lshl, 1), (65, .lor, 1), (66, .lstore_n 2, 1), (67, .iinc 4 1, 3), (70, .goto (-46), 3), (73, .lload_n 2, 1), (74, .lreturn, 1)] := by unfold decs; decide +kernel
theorem dX1_rowOf_46 : decode cX1_rowOf 46 = .ok (.ifCond .eq 12, 3) := decs_at DX1_rowOf_24 0 rfl
theorem dX1_rowOf_49 : decode cX1_rowOf 49 = .ok (.lload_n 2, 1) := decs_at DX1_rowOf_24 1 rfl
theorem dX1_rowOf_50 : decode cX1_rowOf 50 = .ok (.iload 5, 2) := decs_at DX1_rowOf_24 2 rfl
theorem dX1_rowOf_52 : decode cX1_rowOf 52 = .ok (.invokestatic 46, 3) := decs_at DX1_rowOf_24 3 rfl
theorem dX1_rowOf_55 : decode cX1_rowOf 55 = .ok (.ifCond .eq 5, 3) := decs_at DX1_rowOf_24 4 rfl
theorem dX1_rowOf_58 : decode cX1_rowOf 58 = .ok (.lconst 0, 1) := decs_at DX1_rowOf_24 5 rfl
theorem dX1_rowOf_59 : decode cX1_rowOf 59 = .ok (.lreturn, 1) := decs_at DX1_rowOf_24 6 rfl
theorem dX1_rowOf_60 : decode cX1_rowOf 60 = .ok (.lload_n 2, 1) := decs_at DX1_rowOf_24 7 rfl
theorem dX1_rowOf_61 : decode cX1_rowOf 61 = .ok (.lconst 1, 1) := decs_at DX1_rowOf_24 8 rfl
theorem dX1_rowOf_62 : decode cX1_rowOf 62 = .ok (.iload 5, 2) := decs_at DX1_rowOf_24 9 rfl
theorem dX1_rowOf_64 : decode cX1_rowOf 64 = .ok (.lshl, 1) := decs_at DX1_rowOf_24 10 rfl
theorem dX1_rowOf_65 : decode cX1_rowOf 65 = .ok (.lor, 1) := decs_at DX1_rowOf_24 11 rfl
theorem dX1_rowOf_66 : decode cX1_rowOf 66 = .ok (.lstore_n 2, 1) := decs_at DX1_rowOf_24 12 rfl
theorem dX1_rowOf_67 : decode cX1_rowOf 67 = .ok (.iinc 4 1, 3) := decs_at DX1_rowOf_24 13 rfl
theorem dX1_rowOf_70 : decode cX1_rowOf 70 = .ok (.goto (-46), 3) := decs_at DX1_rowOf_24 14 rfl
theorem dX1_rowOf_73 : decode cX1_rowOf 73 = .ok (.lload_n 2, 1) := decs_at DX1_rowOf_24 15 rfl
theorem dX1_rowOf_74 : decode cX1_rowOf 74 = .ok (.lreturn, 1) := decs_at DX1_rowOf_24 16 rfl
theorem DX1_isWagon_0 : decs cX1_isWagon [(0, .iload_n 0, 1), (1, .ifCond .lt 13, 3), (4, .iload_n 0, 1), (5, .bipush 40, 2), (7, .if_icmp .ge 7, 3), (10, .iconst 1, 1), (11, .goto 4, 3), (14, .iconst 0, 1), (15, .ireturn, 1)] := by unfold decs; decide +kernel
theorem dX1_isWagon_0 : decode cX1_isWagon 0 = .ok (.iload_n 0, 1) := decs_at DX1_isWagon_0 0 rfl
theorem dX1_isWagon_1 : decode cX1_isWagon 1 = .ok (.ifCond .lt 13, 3) := decs_at DX1_isWagon_0 1 rfl
theorem dX1_isWagon_4 : decode cX1_isWagon 4 = .ok (.iload_n 0, 1) := decs_at DX1_isWagon_0 2 rfl
theorem dX1_isWagon_5 : decode cX1_isWagon 5 = .ok (.bipush 40, 2) := decs_at DX1_isWagon_0 3 rfl
theorem dX1_isWagon_7 : decode cX1_isWagon 7 = .ok (.if_icmp .ge 7, 3) := decs_at DX1_isWagon_0 4 rfl
theorem dX1_isWagon_10 : decode cX1_isWagon 10 = .ok (.iconst 1, 1) := decs_at DX1_isWagon_0 5 rfl
theorem dX1_isWagon_11 : decode cX1_isWagon 11 = .ok (.goto 4, 3) := decs_at DX1_isWagon_0 6 rfl
theorem dX1_isWagon_14 : decode cX1_isWagon 14 = .ok (.iconst 0, 1) := decs_at DX1_isWagon_0 7 rfl
theorem dX1_isWagon_15 : decode cX1_isWagon 15 = .ok (.ireturn, 1) := decs_at DX1_isWagon_0 8 rfl
theorem DX1_isIn_0 : decs cX1_isIn [(0, .lload_n 0, 1), (1, .iload_n 2, 1), (2, .lshr, 1), (3, .lconst 1, 1), (4, .land, 1), (5, .lconst 1, 1), (6, .lcmp, 1), (7, .ifCond .ne 7, 3), (10, .iconst 1, 1), (11, .goto 4, 3), (14, .iconst 0, 1), (15, .ireturn, 1)] := by unfold decs; decide +kernel
theorem dX1_isIn_0 : decode cX1_isIn 0 = .ok (.lload_n 0, 1) := decs_at DX1_isIn_0 0 rfl
theorem dX1_isIn_1 : decode cX1_isIn 1 = .ok (.iload_n 2, 1) := decs_at DX1_isIn_0 1 rfl
theorem dX1_isIn_2 : decode cX1_isIn 2 = .ok (.lshr, 1) := decs_at DX1_isIn_0 2 rfl
theorem dX1_isIn_3 : decode cX1_isIn 3 = .ok (.lconst 1, 1) := decs_at DX1_isIn_0 3 rfl
theorem dX1_isIn_4 : decode cX1_isIn 4 = .ok (.land, 1) := decs_at DX1_isIn_0 4 rfl
theorem dX1_isIn_5 : decode cX1_isIn 5 = .ok (.lconst 1, 1) := decs_at DX1_isIn_0 5 rfl
theorem dX1_isIn_6 : decode cX1_isIn 6 = .ok (.lcmp, 1) := decs_at DX1_isIn_0 6 rfl
theorem dX1_isIn_7 : decode cX1_isIn 7 = .ok (.ifCond .ne 7, 3) := decs_at DX1_isIn_0 7 rfl
theorem dX1_isIn_10 : decode cX1_isIn 10 = .ok (.iconst 1, 1) := decs_at DX1_isIn_0 8 rfl
theorem dX1_isIn_11 : decode cX1_isIn 11 = .ok (.goto 4, 3) := decs_at DX1_isIn_0 9 rfl
theorem dX1_isIn_14 : decode cX1_isIn 14 = .ok (.iconst 0, 1) := decs_at DX1_isIn_0 10 rfl
theorem dX1_isIn_15 : decode cX1_isIn 15 = .ok (.ireturn, 1) := decs_at DX1_isIn_0 11 rfl
theorem DX1_addDay_0 : decs cX1_addDay [(0, .lload_n 1, 1), (1, .lconst 0, 1), (2, .lcmp, 1), (3, .ifCond .eq 12, 3), (6, .aload_n 0, 1), (7, .getfield 9, 3), (10, .bipush 40, 2), (12, .if_icmp .lt 5, 3), (15, .iconst (-1), 1), (16, .ireturn, 1), (17, .aload_n 0, 1), (18, .getfield 15, 3), (21, .aload_n 0, 1), (22, .getfield 9, 3), (25, .lload_n 1, 1), (26, .lastore, 1), (27, .aload_n 0, 1), (28, .getfield 19, 3), (31, .aload_n 0, 1), (32, .getfield 9, 3), (35, .lconst 0, 1), (36, .lastore, 1), (37, .aload_n 0, 1), (38, .getfield 22, 3)] := by unfold decs; decide +kernel
theorem dX1_addDay_0 : decode cX1_addDay 0 = .ok (.lload_n 1, 1) := decs_at DX1_addDay_0 0 rfl
theorem dX1_addDay_1 : decode cX1_addDay 1 = .ok (.lconst 0, 1) := decs_at DX1_addDay_0 1 rfl
theorem dX1_addDay_2 : decode cX1_addDay 2 = .ok (.lcmp, 1) := decs_at DX1_addDay_0 2 rfl
theorem dX1_addDay_3 : decode cX1_addDay 3 = .ok (.ifCond .eq 12, 3) := decs_at DX1_addDay_0 3 rfl
theorem dX1_addDay_6 : decode cX1_addDay 6 = .ok (.aload_n 0, 1) := decs_at DX1_addDay_0 4 rfl
theorem dX1_addDay_7 : decode cX1_addDay 7 = .ok (.getfield 9, 3) := decs_at DX1_addDay_0 5 rfl
theorem dX1_addDay_10 : decode cX1_addDay 10 = .ok (.bipush 40, 2) := decs_at DX1_addDay_0 6 rfl
theorem dX1_addDay_12 : decode cX1_addDay 12 = .ok (.if_icmp .lt 5, 3) := decs_at DX1_addDay_0 7 rfl
theorem dX1_addDay_15 : decode cX1_addDay 15 = .ok (.iconst (-1), 1) := decs_at DX1_addDay_0 8 rfl
theorem dX1_addDay_16 : decode cX1_addDay 16 = .ok (.ireturn, 1) := decs_at DX1_addDay_0 9 rfl
theorem dX1_addDay_17 : decode cX1_addDay 17 = .ok (.aload_n 0, 1) := decs_at DX1_addDay_0 10 rfl
theorem dX1_addDay_18 : decode cX1_addDay 18 = .ok (.getfield 15, 3) := decs_at DX1_addDay_0 11 rfl
theorem dX1_addDay_21 : decode cX1_addDay 21 = .ok (.aload_n 0, 1) := decs_at DX1_addDay_0 12 rfl
theorem dX1_addDay_22 : decode cX1_addDay 22 = .ok (.getfield 9, 3) := decs_at DX1_addDay_0 13 rfl
theorem dX1_addDay_25 : decode cX1_addDay 25 = .ok (.lload_n 1, 1) := decs_at DX1_addDay_0 14 rfl
theorem dX1_addDay_26 : decode cX1_addDay 26 = .ok (.lastore, 1) := decs_at DX1_addDay_0 15 rfl
theorem dX1_addDay_27 : decode cX1_addDay 27 = .ok (.aload_n 0, 1) := decs_at DX1_addDay_0 16 rfl
theorem dX1_addDay_28 : decode cX1_addDay 28 = .ok (.getfield 19, 3) := decs_at DX1_addDay_0 17 rfl
theorem dX1_addDay_31 : decode cX1_addDay 31 = .ok (.aload_n 0, 1) := decs_at DX1_addDay_0 18 rfl
theorem dX1_addDay_32 : decode cX1_addDay 32 = .ok (.getfield 9, 3) := decs_at DX1_addDay_0 19 rfl
theorem dX1_addDay_35 : decode cX1_addDay 35 = .ok (.lconst 0, 1) := decs_at DX1_addDay_0 20 rfl
theorem dX1_addDay_36 : decode cX1_addDay 36 = .ok (.lastore, 1) := decs_at DX1_addDay_0 21 rfl
theorem dX1_addDay_37 : decode cX1_addDay 37 = .ok (.aload_n 0, 1) := decs_at DX1_addDay_0 22 rfl
theorem dX1_addDay_38 : decode cX1_addDay 38 = .ok (.getfield 22, 3) := decs_at DX1_addDay_0 23 rfl
theorem DX1_addDay_24 : decs cX1_addDay [(41, .aload_n 0, 1), (42, .getfield 9, 3), (45, .iload_n 3, 1), (46, .bastore, 1), (47, .aload_n 0, 1), (48, .dup, 1), (49, .getfield 9, 3), (52, .iconst 1, 1), (53, .iadd, 1), (54, .putfield 9, 3), (57, .aload_n 0, 1), (58, .getfield 9, 3), (61, .iconst 1, 1), (62, .isub, 1), (63, .ireturn, 1)] := by unfold decs; decide +kernel
theorem dX1_addDay_41 : decode cX1_addDay 41 = .ok (.aload_n 0, 1) := decs_at DX1_addDay_24 0 rfl
theorem dX1_addDay_42 : decode cX1_addDay 42 = .ok (.getfield 9, 3) := decs_at DX1_addDay_24 1 rfl
theorem dX1_addDay_45 : decode cX1_addDay 45 = .ok (.iload_n 3, 1) := decs_at DX1_addDay_24 2 rfl
theorem dX1_addDay_46 : decode cX1_addDay 46 = .ok (.bastore, 1) := decs_at DX1_addDay_24 3 rfl
theorem dX1_addDay_47 : decode cX1_addDay 47 = .ok (.aload_n 0, 1) := decs_at DX1_addDay_24 4 rfl
theorem dX1_addDay_48 : decode cX1_addDay 48 = .ok (.dup, 1) := decs_at DX1_addDay_24 5 rfl
theorem dX1_addDay_49 : decode cX1_addDay 49 = .ok (.getfield 9, 3) := decs_at DX1_addDay_24 6 rfl
theorem dX1_addDay_52 : decode cX1_addDay 52 = .ok (.iconst 1, 1) := decs_at DX1_addDay_24 7 rfl
theorem dX1_addDay_53 : decode cX1_addDay 53 = .ok (.iadd, 1) := decs_at DX1_addDay_24 8 rfl
theorem dX1_addDay_54 : decode cX1_addDay 54 = .ok (.putfield 9, 3) := decs_at DX1_addDay_24 9 rfl
theorem dX1_addDay_57 : decode cX1_addDay 57 = .ok (.aload_n 0, 1) := decs_at DX1_addDay_24 10 rfl
theorem dX1_addDay_58 : decode cX1_addDay 58 = .ok (.getfield 9, 3) := decs_at DX1_addDay_24 11 rfl
theorem dX1_addDay_61 : decode cX1_addDay 61 = .ok (.iconst 1, 1) := decs_at DX1_addDay_24 12 rfl
theorem dX1_addDay_62 : decode cX1_addDay 62 = .ok (.isub, 1) := decs_at DX1_addDay_24 13 rfl
theorem dX1_addDay_63 : decode cX1_addDay 63 = .ok (.ireturn, 1) := decs_at DX1_addDay_24 14 rfl
theorem DX1_mend_0 : decs cX1_mend [(0, .iload_n 1, 1), (1, .invokestatic 42, 3), (4, .ifCond .eq 20, 3), (7, .aload_n 0, 1), (8, .getfield 9, 3), (11, .iconst 1, 1), (12, .if_icmp .lt 12, 3), (15, .aload_n 0, 1), (16, .getfield 9, 3), (19, .bipush 40, 2), (21, .if_icmp .le 5, 3), (24, .iconst 0, 1), (25, .ireturn, 1), (26, .aload_n 0, 1), (27, .getfield 19, 3), (30, .aload_n 0, 1), (31, .getfield 9, 3), (34, .iconst 1, 1), (35, .isub, 1), (36, .dup2, 1), (37, .laload, 1), (38, .lconst 1, 1), (39, .iload_n 1, 1), (40, .lshl, 1)] := by unfold decs; decide +kernel
theorem dX1_mend_0 : decode cX1_mend 0 = .ok (.iload_n 1, 1) := decs_at DX1_mend_0 0 rfl
theorem dX1_mend_1 : decode cX1_mend 1 = .ok (.invokestatic 42, 3) := decs_at DX1_mend_0 1 rfl
theorem dX1_mend_4 : decode cX1_mend 4 = .ok (.ifCond .eq 20, 3) := decs_at DX1_mend_0 2 rfl
theorem dX1_mend_7 : decode cX1_mend 7 = .ok (.aload_n 0, 1) := decs_at DX1_mend_0 3 rfl
theorem dX1_mend_8 : decode cX1_mend 8 = .ok (.getfield 9, 3) := decs_at DX1_mend_0 4 rfl
theorem dX1_mend_11 : decode cX1_mend 11 = .ok (.iconst 1, 1) := decs_at DX1_mend_0 5 rfl
theorem dX1_mend_12 : decode cX1_mend 12 = .ok (.if_icmp .lt 12, 3) := decs_at DX1_mend_0 6 rfl
theorem dX1_mend_15 : decode cX1_mend 15 = .ok (.aload_n 0, 1) := decs_at DX1_mend_0 7 rfl
theorem dX1_mend_16 : decode cX1_mend 16 = .ok (.getfield 9, 3) := decs_at DX1_mend_0 8 rfl
theorem dX1_mend_19 : decode cX1_mend 19 = .ok (.bipush 40, 2) := decs_at DX1_mend_0 9 rfl
theorem dX1_mend_21 : decode cX1_mend 21 = .ok (.if_icmp .le 5, 3) := decs_at DX1_mend_0 10 rfl
theorem dX1_mend_24 : decode cX1_mend 24 = .ok (.iconst 0, 1) := decs_at DX1_mend_0 11 rfl
theorem dX1_mend_25 : decode cX1_mend 25 = .ok (.ireturn, 1) := decs_at DX1_mend_0 12 rfl
theorem dX1_mend_26 : decode cX1_mend 26 = .ok (.aload_n 0, 1) := decs_at DX1_mend_0 13 rfl
theorem dX1_mend_27 : decode cX1_mend 27 = .ok (.getfield 19, 3) := decs_at DX1_mend_0 14 rfl
theorem dX1_mend_30 : decode cX1_mend 30 = .ok (.aload_n 0, 1) := decs_at DX1_mend_0 15 rfl
theorem dX1_mend_31 : decode cX1_mend 31 = .ok (.getfield 9, 3) := decs_at DX1_mend_0 16 rfl
theorem dX1_mend_34 : decode cX1_mend 34 = .ok (.iconst 1, 1) := decs_at DX1_mend_0 17 rfl
theorem dX1_mend_35 : decode cX1_mend 35 = .ok (.isub, 1) := decs_at DX1_mend_0 18 rfl
theorem dX1_mend_36 : decode cX1_mend 36 = .ok (.dup2, 1) := decs_at DX1_mend_0 19 rfl
theorem dX1_mend_37 : decode cX1_mend 37 = .ok (.laload, 1) := decs_at DX1_mend_0 20 rfl
theorem dX1_mend_38 : decode cX1_mend 38 = .ok (.lconst 1, 1) := decs_at DX1_mend_0 21 rfl
theorem dX1_mend_39 : decode cX1_mend 39 = .ok (.iload_n 1, 1) := decs_at DX1_mend_0 22 rfl
theorem dX1_mend_40 : decode cX1_mend 40 = .ok (.lshl, 1) := decs_at DX1_mend_0 23 rfl
theorem DX1_mend_24 : decs cX1_mend [(41, .lor, 1), (42, .lastore, 1), (43, .iconst 1, 1), (44, .ireturn, 1)] := by unfold decs; decide +kernel
theorem dX1_mend_41 : decode cX1_mend 41 = .ok (.lor, 1) := decs_at DX1_mend_24 0 rfl
theorem dX1_mend_42 : decode cX1_mend 42 = .ok (.lastore, 1) := decs_at DX1_mend_24 1 rfl
theorem dX1_mend_43 : decode cX1_mend 43 = .ok (.iconst 1, 1) := decs_at DX1_mend_24 2 rfl
theorem dX1_mend_44 : decode cX1_mend 44 = .ok (.ireturn, 1) := decs_at DX1_mend_24 3 rfl
theorem DX1_findSuspects_0 : decs cX1_findSuspects [(0, .iload_n 1, 1), (1, .ifCond .lt 11, 3), (4, .iload_n 1, 1), (5, .aload_n 0, 1), (6, .getfield 9, 3), (9, .if_icmp .lt 5, 3), (12, .iconst (-1), 1), (13, .ireturn, 1), (14, .aload_n 0, 1), (15, .iconst 0, 1), (16, .putfield 30, 3), (19, .iconst 0, 1), (20, .istore_n 2, 1), (21, .iload_n 2, 1), (22, .bipush 40, 2), (24, .if_icmp .ge 48, 3), (27, .aload_n 0, 1), (28, .iload_n 2, 1), (29, .iload_n 1, 1), (30, .invokevirtual 50, 3), (33, .iconst (-1), 1), (34, .if_icmp .eq 32, 3), (37, .aload_n 0, 1), (38, .getfield 30, 3)] := by unfold decs; decide +kernel
theorem dX1_findSuspects_0 : decode cX1_findSuspects 0 = .ok (.iload_n 1, 1) := decs_at DX1_findSuspects_0 0 rfl
theorem dX1_findSuspects_1 : decode cX1_findSuspects 1 = .ok (.ifCond .lt 11, 3) := decs_at DX1_findSuspects_0 1 rfl
theorem dX1_findSuspects_4 : decode cX1_findSuspects 4 = .ok (.iload_n 1, 1) := decs_at DX1_findSuspects_0 2 rfl
theorem dX1_findSuspects_5 : decode cX1_findSuspects 5 = .ok (.aload_n 0, 1) := decs_at DX1_findSuspects_0 3 rfl
theorem dX1_findSuspects_6 : decode cX1_findSuspects 6 = .ok (.getfield 9, 3) := decs_at DX1_findSuspects_0 4 rfl
theorem dX1_findSuspects_9 : decode cX1_findSuspects 9 = .ok (.if_icmp .lt 5, 3) := decs_at DX1_findSuspects_0 5 rfl
theorem dX1_findSuspects_12 : decode cX1_findSuspects 12 = .ok (.iconst (-1), 1) := decs_at DX1_findSuspects_0 6 rfl
theorem dX1_findSuspects_13 : decode cX1_findSuspects 13 = .ok (.ireturn, 1) := decs_at DX1_findSuspects_0 7 rfl
theorem dX1_findSuspects_14 : decode cX1_findSuspects 14 = .ok (.aload_n 0, 1) := decs_at DX1_findSuspects_0 8 rfl
theorem dX1_findSuspects_15 : decode cX1_findSuspects 15 = .ok (.iconst 0, 1) := decs_at DX1_findSuspects_0 9 rfl
theorem dX1_findSuspects_16 : decode cX1_findSuspects 16 = .ok (.putfield 30, 3) := decs_at DX1_findSuspects_0 10 rfl
theorem dX1_findSuspects_19 : decode cX1_findSuspects 19 = .ok (.iconst 0, 1) := decs_at DX1_findSuspects_0 11 rfl
theorem dX1_findSuspects_20 : decode cX1_findSuspects 20 = .ok (.istore_n 2, 1) := decs_at DX1_findSuspects_0 12 rfl
theorem dX1_findSuspects_21 : decode cX1_findSuspects 21 = .ok (.iload_n 2, 1) := decs_at DX1_findSuspects_0 13 rfl
theorem dX1_findSuspects_22 : decode cX1_findSuspects 22 = .ok (.bipush 40, 2) := decs_at DX1_findSuspects_0 14 rfl
theorem dX1_findSuspects_24 : decode cX1_findSuspects 24 = .ok (.if_icmp .ge 48, 3) := decs_at DX1_findSuspects_0 15 rfl
theorem dX1_findSuspects_27 : decode cX1_findSuspects 27 = .ok (.aload_n 0, 1) := decs_at DX1_findSuspects_0 16 rfl
theorem dX1_findSuspects_28 : decode cX1_findSuspects 28 = .ok (.iload_n 2, 1) := decs_at DX1_findSuspects_0 17 rfl
theorem dX1_findSuspects_29 : decode cX1_findSuspects 29 = .ok (.iload_n 1, 1) := decs_at DX1_findSuspects_0 18 rfl
theorem dX1_findSuspects_30 : decode cX1_findSuspects 30 = .ok (.invokevirtual 50, 3) := decs_at DX1_findSuspects_0 19 rfl
theorem dX1_findSuspects_33 : decode cX1_findSuspects 33 = .ok (.iconst (-1), 1) := decs_at DX1_findSuspects_0 20 rfl
theorem dX1_findSuspects_34 : decode cX1_findSuspects 34 = .ok (.if_icmp .eq 32, 3) := decs_at DX1_findSuspects_0 21 rfl
theorem dX1_findSuspects_37 : decode cX1_findSuspects 37 = .ok (.aload_n 0, 1) := decs_at DX1_findSuspects_0 22 rfl
theorem dX1_findSuspects_38 : decode cX1_findSuspects 38 = .ok (.getfield 30, 3) := decs_at DX1_findSuspects_0 23 rfl
theorem DX1_findSuspects_24 : decs cX1_findSuspects [(41, .bipush 40, 2), (43, .if_icmp .ge 23, 3), (46, .aload_n 0, 1), (47, .getfield 26, 3), (50, .aload_n 0, 1), (51, .getfield 30, 3), (54, .iload_n 2, 1), (55, .iastore, 1), (56, .aload_n 0, 1), (57, .dup, 1), (58, .getfield 30, 3), (61, .iconst 1, 1), (62, .iadd, 1), (63, .putfield 30, 3), (66, .iinc 2 1, 3), (69, .goto (-48), 3), (72, .aload_n 0, 1), (73, .getfield 30, 3), (76, .ireturn, 1)] := by unfold decs; decide +kernel
theorem dX1_findSuspects_41 : decode cX1_findSuspects 41 = .ok (.bipush 40, 2) := decs_at DX1_findSuspects_24 0 rfl
theorem dX1_findSuspects_43 : decode cX1_findSuspects 43 = .ok (.if_icmp .ge 23, 3) := decs_at DX1_findSuspects_24 1 rfl
theorem dX1_findSuspects_46 : decode cX1_findSuspects 46 = .ok (.aload_n 0, 1) := decs_at DX1_findSuspects_24 2 rfl
theorem dX1_findSuspects_47 : decode cX1_findSuspects 47 = .ok (.getfield 26, 3) := decs_at DX1_findSuspects_24 3 rfl
theorem dX1_findSuspects_50 : decode cX1_findSuspects 50 = .ok (.aload_n 0, 1) := decs_at DX1_findSuspects_24 4 rfl
theorem dX1_findSuspects_51 : decode cX1_findSuspects 51 = .ok (.getfield 30, 3) := decs_at DX1_findSuspects_24 5 rfl
theorem dX1_findSuspects_54 : decode cX1_findSuspects 54 = .ok (.iload_n 2, 1) := decs_at DX1_findSuspects_24 6 rfl
theorem dX1_findSuspects_55 : decode cX1_findSuspects 55 = .ok (.iastore, 1) := decs_at DX1_findSuspects_24 7 rfl
theorem dX1_findSuspects_56 : decode cX1_findSuspects 56 = .ok (.aload_n 0, 1) := decs_at DX1_findSuspects_24 8 rfl
theorem dX1_findSuspects_57 : decode cX1_findSuspects 57 = .ok (.dup, 1) := decs_at DX1_findSuspects_24 9 rfl
theorem dX1_findSuspects_58 : decode cX1_findSuspects 58 = .ok (.getfield 30, 3) := decs_at DX1_findSuspects_24 10 rfl
theorem dX1_findSuspects_61 : decode cX1_findSuspects 61 = .ok (.iconst 1, 1) := decs_at DX1_findSuspects_24 11 rfl
theorem dX1_findSuspects_62 : decode cX1_findSuspects 62 = .ok (.iadd, 1) := decs_at DX1_findSuspects_24 12 rfl
theorem dX1_findSuspects_63 : decode cX1_findSuspects 63 = .ok (.putfield 30, 3) := decs_at DX1_findSuspects_24 13 rfl
theorem dX1_findSuspects_66 : decode cX1_findSuspects 66 = .ok (.iinc 2 1, 3) := decs_at DX1_findSuspects_24 14 rfl
theorem dX1_findSuspects_69 : decode cX1_findSuspects 69 = .ok (.goto (-48), 3) := decs_at DX1_findSuspects_24 15 rfl
theorem dX1_findSuspects_72 : decode cX1_findSuspects 72 = .ok (.aload_n 0, 1) := decs_at DX1_findSuspects_24 16 rfl
theorem dX1_findSuspects_73 : decode cX1_findSuspects 73 = .ok (.getfield 30, 3) := decs_at DX1_findSuspects_24 17 rfl
theorem dX1_findSuspects_76 : decode cX1_findSuspects 76 = .ok (.ireturn, 1) := decs_at DX1_findSuspects_24 18 rfl
theorem DX1_foundAt_0 : decs cX1_foundAt [(0, .iload_n 1, 1), (1, .ifCond .lt 26, 3), (4, .iload_n 1, 1), (5, .aload_n 0, 1), (6, .getfield 30, 3), (9, .if_icmp .ge 18, 3), (12, .iload_n 1, 1), (13, .bipush 40, 2), (15, .if_icmp .ge 12, 3), (18, .aload_n 0, 1), (19, .getfield 26, 3), (22, .iload_n 1, 1), (23, .iaload, 1), (24, .goto 4, 3), (27, .iconst (-1), 1), (28, .ireturn, 1)] := by unfold decs; decide +kernel
theorem dX1_foundAt_0 : decode cX1_foundAt 0 = .ok (.iload_n 1, 1) := decs_at DX1_foundAt_0 0 rfl
theorem dX1_foundAt_1 : decode cX1_foundAt 1 = .ok (.ifCond .lt 26, 3) := decs_at DX1_foundAt_0 1 rfl
theorem dX1_foundAt_4 : decode cX1_foundAt 4 = .ok (.iload_n 1, 1) := decs_at DX1_foundAt_0 2 rfl
theorem dX1_foundAt_5 : decode cX1_foundAt 5 = .ok (.aload_n 0, 1) := decs_at DX1_foundAt_0 3 rfl
theorem dX1_foundAt_6 : decode cX1_foundAt 6 = .ok (.getfield 30, 3) := decs_at DX1_foundAt_0 4 rfl
theorem dX1_foundAt_9 : decode cX1_foundAt 9 = .ok (.if_icmp .ge 18, 3) := decs_at DX1_foundAt_0 5 rfl
theorem dX1_foundAt_12 : decode cX1_foundAt 12 = .ok (.iload_n 1, 1) := decs_at DX1_foundAt_0 6 rfl
theorem dX1_foundAt_13 : decode cX1_foundAt 13 = .ok (.bipush 40, 2) := decs_at DX1_foundAt_0 7 rfl
theorem dX1_foundAt_15 : decode cX1_foundAt 15 = .ok (.if_icmp .ge 12, 3) := decs_at DX1_foundAt_0 8 rfl
theorem dX1_foundAt_18 : decode cX1_foundAt 18 = .ok (.aload_n 0, 1) := decs_at DX1_foundAt_0 9 rfl
theorem dX1_foundAt_19 : decode cX1_foundAt 19 = .ok (.getfield 26, 3) := decs_at DX1_foundAt_0 10 rfl
theorem dX1_foundAt_22 : decode cX1_foundAt 22 = .ok (.iload_n 1, 1) := decs_at DX1_foundAt_0 11 rfl
theorem dX1_foundAt_23 : decode cX1_foundAt 23 = .ok (.iaload, 1) := decs_at DX1_foundAt_0 12 rfl
theorem dX1_foundAt_24 : decode cX1_foundAt 24 = .ok (.goto 4, 3) := decs_at DX1_foundAt_0 13 rfl
theorem dX1_foundAt_27 : decode cX1_foundAt 27 = .ok (.iconst (-1), 1) := decs_at DX1_foundAt_0 14 rfl
theorem dX1_foundAt_28 : decode cX1_foundAt 28 = .ok (.ireturn, 1) := decs_at DX1_foundAt_0 15 rfl
theorem DX1_latestStart_0 : decs cX1_latestStart [(0, .iload_n 2, 1), (1, .istore_n 3, 1), (2, .iload_n 3, 1), (3, .ifCond .lt 21, 3), (6, .aload_n 0, 1), (7, .iload_n 1, 1), (8, .iload_n 3, 1), (9, .iload_n 2, 1), (10, .invokevirtual 54, 3), (13, .ifCond .eq 5, 3), (16, .iload_n 3, 1), (17, .ireturn, 1), (18, .iinc 3 (-1), 3), (21, .goto (-19), 3), (24, .iconst (-1), 1), (25, .ireturn, 1)] := by unfold decs; decide +kernel
theorem dX1_latestStart_0 : decode cX1_latestStart 0 = .ok (.iload_n 2, 1) := decs_at DX1_latestStart_0 0 rfl
theorem dX1_latestStart_1 : decode cX1_latestStart 1 = .ok (.istore_n 3, 1) := decs_at DX1_latestStart_0 1 rfl
theorem dX1_latestStart_2 : decode cX1_latestStart 2 = .ok (.iload_n 3, 1) := decs_at DX1_latestStart_0 2 rfl
theorem dX1_latestStart_3 : decode cX1_latestStart 3 = .ok (.ifCond .lt 21, 3) := decs_at DX1_latestStart_0 3 rfl
theorem dX1_latestStart_6 : decode cX1_latestStart 6 = .ok (.aload_n 0, 1) := decs_at DX1_latestStart_0 4 rfl
theorem dX1_latestStart_7 : decode cX1_latestStart 7 = .ok (.iload_n 1, 1) := decs_at DX1_latestStart_0 5 rfl
theorem dX1_latestStart_8 : decode cX1_latestStart 8 = .ok (.iload_n 3, 1) := decs_at DX1_latestStart_0 6 rfl
theorem dX1_latestStart_9 : decode cX1_latestStart 9 = .ok (.iload_n 2, 1) := decs_at DX1_latestStart_0 7 rfl
theorem dX1_latestStart_10 : decode cX1_latestStart 10 = .ok (.invokevirtual 54, 3) := decs_at DX1_latestStart_0 8 rfl
theorem dX1_latestStart_13 : decode cX1_latestStart 13 = .ok (.ifCond .eq 5, 3) := decs_at DX1_latestStart_0 9 rfl
theorem dX1_latestStart_16 : decode cX1_latestStart 16 = .ok (.iload_n 3, 1) := decs_at DX1_latestStart_0 10 rfl
theorem dX1_latestStart_17 : decode cX1_latestStart 17 = .ok (.ireturn, 1) := decs_at DX1_latestStart_0 11 rfl
theorem dX1_latestStart_18 : decode cX1_latestStart 18 = .ok (.iinc 3 (-1), 3) := decs_at DX1_latestStart_0 12 rfl
theorem dX1_latestStart_21 : decode cX1_latestStart 21 = .ok (.goto (-19), 3) := decs_at DX1_latestStart_0 13 rfl
theorem dX1_latestStart_24 : decode cX1_latestStart 24 = .ok (.iconst (-1), 1) := decs_at DX1_latestStart_0 14 rfl
theorem dX1_latestStart_25 : decode cX1_latestStart 25 = .ok (.ireturn, 1) := decs_at DX1_latestStart_0 15 rfl
theorem DX1_explains_0 : decs cX1_explains [(0, .iconst 0, 1), (1, .istore 4, 2), (3, .iconst 0, 1), (4, .istore 5, 2), (6, .iload 5, 2), (8, .iload_n 3, 1), (9, .if_icmp .gt 78, 3), (12, .iload 5, 2), (14, .bipush 40, 2), (16, .if_icmp .ge 71, 3), (19, .iload 5, 2), (21, .iload_n 2, 1), (22, .if_icmp .ne 6, 3), (25, .iconst 1, 1), (26, .istore 4, 2), (28, .aload_n 0, 1), (29, .getfield 22, 3), (32, .iload 5, 2), (34, .baload, 1), (35, .iload 4, 2), (37, .ifCond .eq 21, 3), (40, .aload_n 0, 1), (41, .getfield 15, 3), (44, .iload 5, 2)] := by unfold decs; decide +kernel
theorem dX1_explains_0 : decode cX1_explains 0 = .ok (.iconst 0, 1) := decs_at DX1_explains_0 0 rfl
theorem dX1_explains_1 : decode cX1_explains 1 = .ok (.istore 4, 2) := decs_at DX1_explains_0 1 rfl
theorem dX1_explains_3 : decode cX1_explains 3 = .ok (.iconst 0, 1) := decs_at DX1_explains_0 2 rfl
theorem dX1_explains_4 : decode cX1_explains 4 = .ok (.istore 5, 2) := decs_at DX1_explains_0 3 rfl
theorem dX1_explains_6 : decode cX1_explains 6 = .ok (.iload 5, 2) := decs_at DX1_explains_0 4 rfl
theorem dX1_explains_8 : decode cX1_explains 8 = .ok (.iload_n 3, 1) := decs_at DX1_explains_0 5 rfl
theorem dX1_explains_9 : decode cX1_explains 9 = .ok (.if_icmp .gt 78, 3) := decs_at DX1_explains_0 6 rfl
theorem dX1_explains_12 : decode cX1_explains 12 = .ok (.iload 5, 2) := decs_at DX1_explains_0 7 rfl
theorem dX1_explains_14 : decode cX1_explains 14 = .ok (.bipush 40, 2) := decs_at DX1_explains_0 8 rfl
theorem dX1_explains_16 : decode cX1_explains 16 = .ok (.if_icmp .ge 71, 3) := decs_at DX1_explains_0 9 rfl
theorem dX1_explains_19 : decode cX1_explains 19 = .ok (.iload 5, 2) := decs_at DX1_explains_0 10 rfl
theorem dX1_explains_21 : decode cX1_explains 21 = .ok (.iload_n 2, 1) := decs_at DX1_explains_0 11 rfl
theorem dX1_explains_22 : decode cX1_explains 22 = .ok (.if_icmp .ne 6, 3) := decs_at DX1_explains_0 12 rfl
theorem dX1_explains_25 : decode cX1_explains 25 = .ok (.iconst 1, 1) := decs_at DX1_explains_0 13 rfl
theorem dX1_explains_26 : decode cX1_explains 26 = .ok (.istore 4, 2) := decs_at DX1_explains_0 14 rfl
theorem dX1_explains_28 : decode cX1_explains 28 = .ok (.aload_n 0, 1) := decs_at DX1_explains_0 15 rfl
theorem dX1_explains_29 : decode cX1_explains 29 = .ok (.getfield 22, 3) := decs_at DX1_explains_0 16 rfl
theorem dX1_explains_32 : decode cX1_explains 32 = .ok (.iload 5, 2) := decs_at DX1_explains_0 17 rfl
theorem dX1_explains_34 : decode cX1_explains 34 = .ok (.baload, 1) := decs_at DX1_explains_0 18 rfl
theorem dX1_explains_35 : decode cX1_explains 35 = .ok (.iload 4, 2) := decs_at DX1_explains_0 19 rfl
theorem dX1_explains_37 : decode cX1_explains 37 = .ok (.ifCond .eq 21, 3) := decs_at DX1_explains_0 20 rfl
theorem dX1_explains_40 : decode cX1_explains 40 = .ok (.aload_n 0, 1) := decs_at DX1_explains_0 21 rfl
theorem dX1_explains_41 : decode cX1_explains 41 = .ok (.getfield 15, 3) := decs_at DX1_explains_0 22 rfl
theorem dX1_explains_44 : decode cX1_explains 44 = .ok (.iload 5, 2) := decs_at DX1_explains_0 23 rfl
theorem DX1_explains_24 : decs cX1_explains [(46, .laload, 1), (47, .iload_n 1, 1), (48, .invokestatic 46, 3), (51, .ifCond .eq 7, 3), (54, .iconst 1, 1), (55, .goto 4, 3), (58, .iconst 0, 1), (59, .if_icmp .eq 5, 3), (62, .iconst 0, 1), (63, .ireturn, 1), (64, .aload_n 0, 1), (65, .getfield 19, 3), (68, .iload 5, 2), (70, .laload, 1), (71, .iload_n 1, 1), (72, .invokestatic 46, 3), (75, .ifCond .eq 6, 3), (78, .iconst 0, 1), (79, .istore 4, 2), (81, .iinc 5 1, 3), (84, .goto (-78), 3), (87, .iconst 1, 1), (88, .ireturn, 1)] := by unfold decs; decide +kernel
theorem dX1_explains_46 : decode cX1_explains 46 = .ok (.laload, 1) := decs_at DX1_explains_24 0 rfl
theorem dX1_explains_47 : decode cX1_explains 47 = .ok (.iload_n 1, 1) := decs_at DX1_explains_24 1 rfl
theorem dX1_explains_48 : decode cX1_explains 48 = .ok (.invokestatic 46, 3) := decs_at DX1_explains_24 2 rfl
theorem dX1_explains_51 : decode cX1_explains 51 = .ok (.ifCond .eq 7, 3) := decs_at DX1_explains_24 3 rfl
theorem dX1_explains_54 : decode cX1_explains 54 = .ok (.iconst 1, 1) := decs_at DX1_explains_24 4 rfl
theorem dX1_explains_55 : decode cX1_explains 55 = .ok (.goto 4, 3) := decs_at DX1_explains_24 5 rfl
theorem dX1_explains_58 : decode cX1_explains 58 = .ok (.iconst 0, 1) := decs_at DX1_explains_24 6 rfl
theorem dX1_explains_59 : decode cX1_explains 59 = .ok (.if_icmp .eq 5, 3) := decs_at DX1_explains_24 7 rfl
theorem dX1_explains_62 : decode cX1_explains 62 = .ok (.iconst 0, 1) := decs_at DX1_explains_24 8 rfl
theorem dX1_explains_63 : decode cX1_explains 63 = .ok (.ireturn, 1) := decs_at DX1_explains_24 9 rfl
theorem dX1_explains_64 : decode cX1_explains 64 = .ok (.aload_n 0, 1) := decs_at DX1_explains_24 10 rfl
theorem dX1_explains_65 : decode cX1_explains 65 = .ok (.getfield 19, 3) := decs_at DX1_explains_24 11 rfl
theorem dX1_explains_68 : decode cX1_explains 68 = .ok (.iload 5, 2) := decs_at DX1_explains_24 12 rfl
theorem dX1_explains_70 : decode cX1_explains 70 = .ok (.laload, 1) := decs_at DX1_explains_24 13 rfl
theorem dX1_explains_71 : decode cX1_explains 71 = .ok (.iload_n 1, 1) := decs_at DX1_explains_24 14 rfl
theorem dX1_explains_72 : decode cX1_explains 72 = .ok (.invokestatic 46, 3) := decs_at DX1_explains_24 15 rfl
theorem dX1_explains_75 : decode cX1_explains 75 = .ok (.ifCond .eq 6, 3) := decs_at DX1_explains_24 16 rfl
theorem dX1_explains_78 : decode cX1_explains 78 = .ok (.iconst 0, 1) := decs_at DX1_explains_24 17 rfl
theorem dX1_explains_79 : decode cX1_explains 79 = .ok (.istore 4, 2) := decs_at DX1_explains_24 18 rfl
theorem dX1_explains_81 : decode cX1_explains 81 = .ok (.iinc 5 1, 3) := decs_at DX1_explains_24 19 rfl
theorem dX1_explains_84 : decode cX1_explains 84 = .ok (.goto (-78), 3) := decs_at DX1_explains_24 20 rfl
theorem dX1_explains_87 : decode cX1_explains 87 = .ok (.iconst 1, 1) := decs_at DX1_explains_24 21 rfl
theorem dX1_explains_88 : decode cX1_explains 88 = .ok (.ireturn, 1) := decs_at DX1_explains_24 22 rfl
theorem DX1_isBadStill_0 : decs cX1_isBadStill [(0, .iconst 0, 1), (1, .iload_n 2, 1), (2, .invokestatic 58, 3), (5, .istore_n 3, 1), (6, .iload_n 3, 1), (7, .aload_n 0, 1), (8, .getfield 9, 3), (11, .if_icmp .ge 30, 3), (14, .iload_n 3, 1), (15, .bipush 40, 2), (17, .if_icmp .ge 24, 3), (20, .aload_n 0, 1), (21, .getfield 19, 3), (24, .iload_n 3, 1), (25, .laload, 1), (26, .iload_n 1, 1), (27, .invokestatic 46, 3), (30, .ifCond .eq 5, 3), (33, .iconst 0, 1), (34, .ireturn, 1), (35, .iinc 3 1, 3), (38, .goto (-32), 3), (41, .iconst 1, 1), (42, .ireturn, 1)] := by unfold decs; decide +kernel
theorem dX1_isBadStill_0 : decode cX1_isBadStill 0 = .ok (.iconst 0, 1) := decs_at DX1_isBadStill_0 0 rfl
theorem dX1_isBadStill_1 : decode cX1_isBadStill 1 = .ok (.iload_n 2, 1) := decs_at DX1_isBadStill_0 1 rfl
theorem dX1_isBadStill_2 : decode cX1_isBadStill 2 = .ok (.invokestatic 58, 3) := decs_at DX1_isBadStill_0 2 rfl
theorem dX1_isBadStill_5 : decode cX1_isBadStill 5 = .ok (.istore_n 3, 1) := decs_at DX1_isBadStill_0 3 rfl
theorem dX1_isBadStill_6 : decode cX1_isBadStill 6 = .ok (.iload_n 3, 1) := decs_at DX1_isBadStill_0 4 rfl
theorem dX1_isBadStill_7 : decode cX1_isBadStill 7 = .ok (.aload_n 0, 1) := decs_at DX1_isBadStill_0 5 rfl
theorem dX1_isBadStill_8 : decode cX1_isBadStill 8 = .ok (.getfield 9, 3) := decs_at DX1_isBadStill_0 6 rfl
theorem dX1_isBadStill_11 : decode cX1_isBadStill 11 = .ok (.if_icmp .ge 30, 3) := decs_at DX1_isBadStill_0 7 rfl
theorem dX1_isBadStill_14 : decode cX1_isBadStill 14 = .ok (.iload_n 3, 1) := decs_at DX1_isBadStill_0 8 rfl
theorem dX1_isBadStill_15 : decode cX1_isBadStill 15 = .ok (.bipush 40, 2) := decs_at DX1_isBadStill_0 9 rfl
theorem dX1_isBadStill_17 : decode cX1_isBadStill 17 = .ok (.if_icmp .ge 24, 3) := decs_at DX1_isBadStill_0 10 rfl
theorem dX1_isBadStill_20 : decode cX1_isBadStill 20 = .ok (.aload_n 0, 1) := decs_at DX1_isBadStill_0 11 rfl
theorem dX1_isBadStill_21 : decode cX1_isBadStill 21 = .ok (.getfield 19, 3) := decs_at DX1_isBadStill_0 12 rfl
theorem dX1_isBadStill_24 : decode cX1_isBadStill 24 = .ok (.iload_n 3, 1) := decs_at DX1_isBadStill_0 13 rfl
theorem dX1_isBadStill_25 : decode cX1_isBadStill 25 = .ok (.laload, 1) := decs_at DX1_isBadStill_0 14 rfl
theorem dX1_isBadStill_26 : decode cX1_isBadStill 26 = .ok (.iload_n 1, 1) := decs_at DX1_isBadStill_0 15 rfl
theorem dX1_isBadStill_27 : decode cX1_isBadStill 27 = .ok (.invokestatic 46, 3) := decs_at DX1_isBadStill_0 16 rfl
theorem dX1_isBadStill_30 : decode cX1_isBadStill 30 = .ok (.ifCond .eq 5, 3) := decs_at DX1_isBadStill_0 17 rfl
theorem dX1_isBadStill_33 : decode cX1_isBadStill 33 = .ok (.iconst 0, 1) := decs_at DX1_isBadStill_0 18 rfl
theorem dX1_isBadStill_34 : decode cX1_isBadStill 34 = .ok (.ireturn, 1) := decs_at DX1_isBadStill_0 19 rfl
theorem dX1_isBadStill_35 : decode cX1_isBadStill 35 = .ok (.iinc 3 1, 3) := decs_at DX1_isBadStill_0 20 rfl
theorem dX1_isBadStill_38 : decode cX1_isBadStill 38 = .ok (.goto (-32), 3) := decs_at DX1_isBadStill_0 21 rfl
theorem dX1_isBadStill_41 : decode cX1_isBadStill 41 = .ok (.iconst 1, 1) := decs_at DX1_isBadStill_0 22 rfl
theorem dX1_isBadStill_42 : decode cX1_isBadStill 42 = .ok (.ireturn, 1) := decs_at DX1_isBadStill_0 23 rfl
theorem DX1_foresee_0 : decs cX1_foresee [(0, .lload_n 1, 1), (1, .lconst 0, 1), (2, .lcmp, 1), (3, .ifCond .eq 10, 3), (6, .aload_n 0, 1), (7, .getfield 9, 3), (10, .ifCond .ne 5, 3), (13, .iconst (-1), 1), (14, .ireturn, 1), (15, .iconst 0, 1), (16, .istore_n 3, 1), (17, .iconst 0, 1), (18, .istore 4, 2), (20, .iconst 0, 1), (21, .istore 5, 2), (23, .iload 5, 2), (25, .bipush 40, 2), (27, .if_icmp .ge 55, 3), (30, .aload_n 0, 1), (31, .iload 5, 2), (33, .aload_n 0, 1), (34, .getfield 9, 3), (37, .iconst 1, 1), (38, .isub, 1)] := by unfold decs; decide +kernel
theorem dX1_foresee_0 : decode cX1_foresee 0 = .ok (.lload_n 1, 1) := decs_at DX1_foresee_0 0 rfl
theorem dX1_foresee_1 : decode cX1_foresee 1 = .ok (.lconst 0, 1) := decs_at DX1_foresee_0 1 rfl
theorem dX1_foresee_2 : decode cX1_foresee 2 = .ok (.lcmp, 1) := decs_at DX1_foresee_0 2 rfl
theorem dX1_foresee_3 : decode cX1_foresee 3 = .ok (.ifCond .eq 10, 3) := decs_at DX1_foresee_0 3 rfl
theorem dX1_foresee_6 : decode cX1_foresee 6 = .ok (.aload_n 0, 1) := decs_at DX1_foresee_0 4 rfl
theorem dX1_foresee_7 : decode cX1_foresee 7 = .ok (.getfield 9, 3) := decs_at DX1_foresee_0 5 rfl
theorem dX1_foresee_10 : decode cX1_foresee 10 = .ok (.ifCond .ne 5, 3) := decs_at DX1_foresee_0 6 rfl
theorem dX1_foresee_13 : decode cX1_foresee 13 = .ok (.iconst (-1), 1) := decs_at DX1_foresee_0 7 rfl
theorem dX1_foresee_14 : decode cX1_foresee 14 = .ok (.ireturn, 1) := decs_at DX1_foresee_0 8 rfl
theorem dX1_foresee_15 : decode cX1_foresee 15 = .ok (.iconst 0, 1) := decs_at DX1_foresee_0 9 rfl
theorem dX1_foresee_16 : decode cX1_foresee 16 = .ok (.istore_n 3, 1) := decs_at DX1_foresee_0 10 rfl
theorem dX1_foresee_17 : decode cX1_foresee 17 = .ok (.iconst 0, 1) := decs_at DX1_foresee_0 11 rfl
theorem dX1_foresee_18 : decode cX1_foresee 18 = .ok (.istore 4, 2) := decs_at DX1_foresee_0 12 rfl
theorem dX1_foresee_20 : decode cX1_foresee 20 = .ok (.iconst 0, 1) := decs_at DX1_foresee_0 13 rfl
theorem dX1_foresee_21 : decode cX1_foresee 21 = .ok (.istore 5, 2) := decs_at DX1_foresee_0 14 rfl
theorem dX1_foresee_23 : decode cX1_foresee 23 = .ok (.iload 5, 2) := decs_at DX1_foresee_0 15 rfl
theorem dX1_foresee_25 : decode cX1_foresee 25 = .ok (.bipush 40, 2) := decs_at DX1_foresee_0 16 rfl
theorem dX1_foresee_27 : decode cX1_foresee 27 = .ok (.if_icmp .ge 55, 3) := decs_at DX1_foresee_0 17 rfl
theorem dX1_foresee_30 : decode cX1_foresee 30 = .ok (.aload_n 0, 1) := decs_at DX1_foresee_0 18 rfl
theorem dX1_foresee_31 : decode cX1_foresee 31 = .ok (.iload 5, 2) := decs_at DX1_foresee_0 19 rfl
theorem dX1_foresee_33 : decode cX1_foresee 33 = .ok (.aload_n 0, 1) := decs_at DX1_foresee_0 20 rfl
theorem dX1_foresee_34 : decode cX1_foresee 34 = .ok (.getfield 9, 3) := decs_at DX1_foresee_0 21 rfl
theorem dX1_foresee_37 : decode cX1_foresee 37 = .ok (.iconst 1, 1) := decs_at DX1_foresee_0 22 rfl
theorem dX1_foresee_38 : decode cX1_foresee 38 = .ok (.isub, 1) := decs_at DX1_foresee_0 23 rfl
theorem DX1_foresee_24 : decs cX1_foresee [(39, .invokevirtual 50, 3), (42, .istore 6, 2), (44, .iload 6, 2), (46, .iconst (-1), 1), (47, .if_icmp .eq 29, 3), (50, .iinc 3 1, 3), (53, .lload_n 1, 1), (54, .iload 5, 2), (56, .invokestatic 46, 3), (59, .ifCond .eq 17, 3), (62, .aload_n 0, 1), (63, .iload 5, 2), (65, .iload 6, 2), (67, .invokevirtual 63, 3), (70, .ifCond .eq 6, 3), (73, .iinc 4 1, 3), (76, .iinc 5 1, 3), (79, .goto (-56), 3), (82, .iload_n 3, 1), (83, .ifCond .ne 5, 3), (86, .iconst (-1), 1), (87, .ireturn, 1), (88, .iload 4, 2), (90, .ifCond .ne 7, 3)] := by unfold decs; decide +kernel
theorem dX1_foresee_39 : decode cX1_foresee 39 = .ok (.invokevirtual 50, 3) := decs_at DX1_foresee_24 0 rfl
theorem dX1_foresee_42 : decode cX1_foresee 42 = .ok (.istore 6, 2) := decs_at DX1_foresee_24 1 rfl
theorem dX1_foresee_44 : decode cX1_foresee 44 = .ok (.iload 6, 2) := decs_at DX1_foresee_24 2 rfl
theorem dX1_foresee_46 : decode cX1_foresee 46 = .ok (.iconst (-1), 1) := decs_at DX1_foresee_24 3 rfl
theorem dX1_foresee_47 : decode cX1_foresee 47 = .ok (.if_icmp .eq 29, 3) := decs_at DX1_foresee_24 4 rfl
theorem dX1_foresee_50 : decode cX1_foresee 50 = .ok (.iinc 3 1, 3) := decs_at DX1_foresee_24 5 rfl
theorem dX1_foresee_53 : decode cX1_foresee 53 = .ok (.lload_n 1, 1) := decs_at DX1_foresee_24 6 rfl
theorem dX1_foresee_54 : decode cX1_foresee 54 = .ok (.iload 5, 2) := decs_at DX1_foresee_24 7 rfl
theorem dX1_foresee_56 : decode cX1_foresee 56 = .ok (.invokestatic 46, 3) := decs_at DX1_foresee_24 8 rfl
theorem dX1_foresee_59 : decode cX1_foresee 59 = .ok (.ifCond .eq 17, 3) := decs_at DX1_foresee_24 9 rfl
theorem dX1_foresee_62 : decode cX1_foresee 62 = .ok (.aload_n 0, 1) := decs_at DX1_foresee_24 10 rfl
theorem dX1_foresee_63 : decode cX1_foresee 63 = .ok (.iload 5, 2) := decs_at DX1_foresee_24 11 rfl
theorem dX1_foresee_65 : decode cX1_foresee 65 = .ok (.iload 6, 2) := decs_at DX1_foresee_24 12 rfl
theorem dX1_foresee_67 : decode cX1_foresee 67 = .ok (.invokevirtual 63, 3) := decs_at DX1_foresee_24 13 rfl
theorem dX1_foresee_70 : decode cX1_foresee 70 = .ok (.ifCond .eq 6, 3) := decs_at DX1_foresee_24 14 rfl
theorem dX1_foresee_73 : decode cX1_foresee 73 = .ok (.iinc 4 1, 3) := decs_at DX1_foresee_24 15 rfl
theorem dX1_foresee_76 : decode cX1_foresee 76 = .ok (.iinc 5 1, 3) := decs_at DX1_foresee_24 16 rfl
theorem dX1_foresee_79 : decode cX1_foresee 79 = .ok (.goto (-56), 3) := decs_at DX1_foresee_24 17 rfl
theorem dX1_foresee_82 : decode cX1_foresee 82 = .ok (.iload_n 3, 1) := decs_at DX1_foresee_24 18 rfl
theorem dX1_foresee_83 : decode cX1_foresee 83 = .ok (.ifCond .ne 5, 3) := decs_at DX1_foresee_24 19 rfl
theorem dX1_foresee_86 : decode cX1_foresee 86 = .ok (.iconst (-1), 1) := decs_at DX1_foresee_24 20 rfl
theorem dX1_foresee_87 : decode cX1_foresee 87 = .ok (.ireturn, 1) := decs_at DX1_foresee_24 21 rfl
theorem dX1_foresee_88 : decode cX1_foresee 88 = .ok (.iload 4, 2) := decs_at DX1_foresee_24 22 rfl
theorem dX1_foresee_90 : decode cX1_foresee 90 = .ok (.ifCond .ne 7, 3) := decs_at DX1_foresee_24 23 rfl
theorem DX1_foresee_48 : decs cX1_foresee [(93, .iconst 0, 1), (94, .goto 14, 3), (97, .iload 4, 2), (99, .iload_n 3, 1), (100, .if_icmp .ne 7, 3), (103, .iconst 1, 1), (104, .goto 4, 3), (107, .iconst 2, 1), (108, .ireturn, 1)] := by unfold decs; decide +kernel
theorem dX1_foresee_93 : decode cX1_foresee 93 = .ok (.iconst 0, 1) := decs_at DX1_foresee_48 0 rfl
theorem dX1_foresee_94 : decode cX1_foresee 94 = .ok (.goto 14, 3) := decs_at DX1_foresee_48 1 rfl
theorem dX1_foresee_97 : decode cX1_foresee 97 = .ok (.iload 4, 2) := decs_at DX1_foresee_48 2 rfl
theorem dX1_foresee_99 : decode cX1_foresee 99 = .ok (.iload_n 3, 1) := decs_at DX1_foresee_48 3 rfl
theorem dX1_foresee_100 : decode cX1_foresee 100 = .ok (.if_icmp .ne 7, 3) := decs_at DX1_foresee_48 4 rfl
theorem dX1_foresee_103 : decode cX1_foresee 103 = .ok (.iconst 1, 1) := decs_at DX1_foresee_48 5 rfl
theorem dX1_foresee_104 : decode cX1_foresee 104 = .ok (.goto 4, 3) := decs_at DX1_foresee_48 6 rfl
theorem dX1_foresee_107 : decode cX1_foresee 107 = .ok (.iconst 2, 1) := decs_at DX1_foresee_48 7 rfl
theorem dX1_foresee_108 : decode cX1_foresee 108 = .ok (.ireturn, 1) := decs_at DX1_foresee_48 8 rfl
theorem DX2_readGauges_0 : decs cX2_readGauges [(0, .aload_n 1, 1), (1, .getfield 77, 3), (4, .bipush 6, 2), (6, .idiv, 1), (7, .istore_n 2, 1), (8, .aload_n 0, 1), (9, .iconst 0, 1), (10, .putfield 35, 3), (13, .aload_n 0, 1), (14, .iconst 0, 1), (15, .putfield 39, 3), (18, .aload_n 1, 1), (19, .getfield 77, 3), (22, .bipush 6, 2), (24, .irem, 1), (25, .ifCond .ne 14, 3), (28, .iload_n 2, 1), (29, .iconst 1, 1), (30, .if_icmp .lt 9, 3), (33, .iload_n 2, 1), (34, .bipush 8, 2), (36, .if_icmp .le 5, 3), (39, .iconst 0, 1), (40, .ireturn, 1)] := by unfold decs; decide +kernel
theorem dX2_readGauges_0 : decode cX2_readGauges 0 = .ok (.aload_n 1, 1) := decs_at DX2_readGauges_0 0 rfl
theorem dX2_readGauges_1 : decode cX2_readGauges 1 = .ok (.getfield 77, 3) := decs_at DX2_readGauges_0 1 rfl
theorem dX2_readGauges_4 : decode cX2_readGauges 4 = .ok (.bipush 6, 2) := decs_at DX2_readGauges_0 2 rfl
theorem dX2_readGauges_6 : decode cX2_readGauges 6 = .ok (.idiv, 1) := decs_at DX2_readGauges_0 3 rfl
theorem dX2_readGauges_7 : decode cX2_readGauges 7 = .ok (.istore_n 2, 1) := decs_at DX2_readGauges_0 4 rfl
theorem dX2_readGauges_8 : decode cX2_readGauges 8 = .ok (.aload_n 0, 1) := decs_at DX2_readGauges_0 5 rfl
theorem dX2_readGauges_9 : decode cX2_readGauges 9 = .ok (.iconst 0, 1) := decs_at DX2_readGauges_0 6 rfl
theorem dX2_readGauges_10 : decode cX2_readGauges 10 = .ok (.putfield 35, 3) := decs_at DX2_readGauges_0 7 rfl
theorem dX2_readGauges_13 : decode cX2_readGauges 13 = .ok (.aload_n 0, 1) := decs_at DX2_readGauges_0 8 rfl
theorem dX2_readGauges_14 : decode cX2_readGauges 14 = .ok (.iconst 0, 1) := decs_at DX2_readGauges_0 9 rfl
theorem dX2_readGauges_15 : decode cX2_readGauges 15 = .ok (.putfield 39, 3) := decs_at DX2_readGauges_0 10 rfl
theorem dX2_readGauges_18 : decode cX2_readGauges 18 = .ok (.aload_n 1, 1) := decs_at DX2_readGauges_0 11 rfl
theorem dX2_readGauges_19 : decode cX2_readGauges 19 = .ok (.getfield 77, 3) := decs_at DX2_readGauges_0 12 rfl
theorem dX2_readGauges_22 : decode cX2_readGauges 22 = .ok (.bipush 6, 2) := decs_at DX2_readGauges_0 13 rfl
theorem dX2_readGauges_24 : decode cX2_readGauges 24 = .ok (.irem, 1) := decs_at DX2_readGauges_0 14 rfl
theorem dX2_readGauges_25 : decode cX2_readGauges 25 = .ok (.ifCond .ne 14, 3) := decs_at DX2_readGauges_0 15 rfl
theorem dX2_readGauges_28 : decode cX2_readGauges 28 = .ok (.iload_n 2, 1) := decs_at DX2_readGauges_0 16 rfl
theorem dX2_readGauges_29 : decode cX2_readGauges 29 = .ok (.iconst 1, 1) := decs_at DX2_readGauges_0 17 rfl
theorem dX2_readGauges_30 : decode cX2_readGauges 30 = .ok (.if_icmp .lt 9, 3) := decs_at DX2_readGauges_0 18 rfl
theorem dX2_readGauges_33 : decode cX2_readGauges 33 = .ok (.iload_n 2, 1) := decs_at DX2_readGauges_0 19 rfl
theorem dX2_readGauges_34 : decode cX2_readGauges 34 = .ok (.bipush 8, 2) := decs_at DX2_readGauges_0 20 rfl
theorem dX2_readGauges_36 : decode cX2_readGauges 36 = .ok (.if_icmp .le 5, 3) := decs_at DX2_readGauges_0 21 rfl
theorem dX2_readGauges_39 : decode cX2_readGauges 39 = .ok (.iconst 0, 1) := decs_at DX2_readGauges_0 22 rfl
theorem dX2_readGauges_40 : decode cX2_readGauges 40 = .ok (.ireturn, 1) := decs_at DX2_readGauges_0 23 rfl
theorem DX2_readGauges_24 : decs cX2_readGauges [(41, .iconst 0, 1), (42, .istore_n 3, 1), (43, .iload_n 3, 1), (44, .iload_n 2, 1), (45, .if_icmp .ge 94, 3), (48, .iload_n 3, 1), (49, .bipush 8, 2), (51, .if_icmp .ge 88, 3), (54, .iload_n 3, 1), (55, .bipush 6, 2), (57, .imul, 1), (58, .istore 4, 2), (60, .aload_n 1, 1), (61, .iload 4, 2), (63, .invokevirtual 82, 3), (66, .istore 5, 2), (68, .iload 5, 2), (70, .iconst 1, 1), (71, .if_icmp .lt 11, 3), (74, .iload 5, 2), (76, .sipush 400, 3), (79, .if_icmp .le 5, 3), (82, .iconst 0, 1), (83, .ireturn, 1)] := by unfold decs; decide +kernel
theorem dX2_readGauges_41 : decode cX2_readGauges 41 = .ok (.iconst 0, 1) := decs_at DX2_readGauges_24 0 rfl
theorem dX2_readGauges_42 : decode cX2_readGauges 42 = .ok (.istore_n 3, 1) := decs_at DX2_readGauges_24 1 rfl
theorem dX2_readGauges_43 : decode cX2_readGauges 43 = .ok (.iload_n 3, 1) := decs_at DX2_readGauges_24 2 rfl
theorem dX2_readGauges_44 : decode cX2_readGauges 44 = .ok (.iload_n 2, 1) := decs_at DX2_readGauges_24 3 rfl
theorem dX2_readGauges_45 : decode cX2_readGauges 45 = .ok (.if_icmp .ge 94, 3) := decs_at DX2_readGauges_24 4 rfl
theorem dX2_readGauges_48 : decode cX2_readGauges 48 = .ok (.iload_n 3, 1) := decs_at DX2_readGauges_24 5 rfl
theorem dX2_readGauges_49 : decode cX2_readGauges 49 = .ok (.bipush 8, 2) := decs_at DX2_readGauges_24 6 rfl
theorem dX2_readGauges_51 : decode cX2_readGauges 51 = .ok (.if_icmp .ge 88, 3) := decs_at DX2_readGauges_24 7 rfl
theorem dX2_readGauges_54 : decode cX2_readGauges 54 = .ok (.iload_n 3, 1) := decs_at DX2_readGauges_24 8 rfl
theorem dX2_readGauges_55 : decode cX2_readGauges 55 = .ok (.bipush 6, 2) := decs_at DX2_readGauges_24 9 rfl
theorem dX2_readGauges_57 : decode cX2_readGauges 57 = .ok (.imul, 1) := decs_at DX2_readGauges_24 10 rfl
theorem dX2_readGauges_58 : decode cX2_readGauges 58 = .ok (.istore 4, 2) := decs_at DX2_readGauges_24 11 rfl
theorem dX2_readGauges_60 : decode cX2_readGauges 60 = .ok (.aload_n 1, 1) := decs_at DX2_readGauges_24 12 rfl
theorem dX2_readGauges_61 : decode cX2_readGauges 61 = .ok (.iload 4, 2) := decs_at DX2_readGauges_24 13 rfl
theorem dX2_readGauges_63 : decode cX2_readGauges 63 = .ok (.invokevirtual 82, 3) := decs_at DX2_readGauges_24 14 rfl
theorem dX2_readGauges_66 : decode cX2_readGauges 66 = .ok (.istore 5, 2) := decs_at DX2_readGauges_24 15 rfl
theorem dX2_readGauges_68 : decode cX2_readGauges 68 = .ok (.iload 5, 2) := decs_at DX2_readGauges_24 16 rfl
theorem dX2_readGauges_70 : decode cX2_readGauges 70 = .ok (.iconst 1, 1) := decs_at DX2_readGauges_24 17 rfl
theorem dX2_readGauges_71 : decode cX2_readGauges 71 = .ok (.if_icmp .lt 11, 3) := decs_at DX2_readGauges_24 18 rfl
theorem dX2_readGauges_74 : decode cX2_readGauges 74 = .ok (.iload 5, 2) := decs_at DX2_readGauges_24 19 rfl
theorem dX2_readGauges_76 : decode cX2_readGauges 76 = .ok (.sipush 400, 3) := decs_at DX2_readGauges_24 20 rfl
theorem dX2_readGauges_79 : decode cX2_readGauges 79 = .ok (.if_icmp .le 5, 3) := decs_at DX2_readGauges_24 21 rfl
theorem dX2_readGauges_82 : decode cX2_readGauges 82 = .ok (.iconst 0, 1) := decs_at DX2_readGauges_24 22 rfl
theorem dX2_readGauges_83 : decode cX2_readGauges 83 = .ok (.ireturn, 1) := decs_at DX2_readGauges_24 23 rfl
theorem DX2_readGauges_48 : decs cX2_readGauges [(84, .aload_n 0, 1), (85, .getfield 25, 3), (88, .iload_n 3, 1), (89, .iload 5, 2), (91, .iastore, 1), (92, .aload_n 0, 1), (93, .getfield 29, 3), (96, .iload_n 3, 1), (97, .aload_n 1, 1), (98, .iload 4, 2), (100, .iconst 2, 1), (101, .iadd, 1), (102, .invokevirtual 82, 3), (105, .iastore, 1), (106, .aload_n 0, 1), (107, .getfield 32, 3), (110, .iload_n 3, 1), (111, .aload_n 1, 1), (112, .iload 4, 2), (114, .iconst 4, 1), (115, .iadd, 1), (116, .invokevirtual 82, 3), (119, .iastore, 1), (120, .aload_n 0, 1)] := by unfold decs; decide +kernel
theorem dX2_readGauges_84 : decode cX2_readGauges 84 = .ok (.aload_n 0, 1) := decs_at DX2_readGauges_48 0 rfl
theorem dX2_readGauges_85 : decode cX2_readGauges 85 = .ok (.getfield 25, 3) := decs_at DX2_readGauges_48 1 rfl
theorem dX2_readGauges_88 : decode cX2_readGauges 88 = .ok (.iload_n 3, 1) := decs_at DX2_readGauges_48 2 rfl
theorem dX2_readGauges_89 : decode cX2_readGauges 89 = .ok (.iload 5, 2) := decs_at DX2_readGauges_48 3 rfl
theorem dX2_readGauges_91 : decode cX2_readGauges 91 = .ok (.iastore, 1) := decs_at DX2_readGauges_48 4 rfl
theorem dX2_readGauges_92 : decode cX2_readGauges 92 = .ok (.aload_n 0, 1) := decs_at DX2_readGauges_48 5 rfl
theorem dX2_readGauges_93 : decode cX2_readGauges 93 = .ok (.getfield 29, 3) := decs_at DX2_readGauges_48 6 rfl
theorem dX2_readGauges_96 : decode cX2_readGauges 96 = .ok (.iload_n 3, 1) := decs_at DX2_readGauges_48 7 rfl
theorem dX2_readGauges_97 : decode cX2_readGauges 97 = .ok (.aload_n 1, 1) := decs_at DX2_readGauges_48 8 rfl
theorem dX2_readGauges_98 : decode cX2_readGauges 98 = .ok (.iload 4, 2) := decs_at DX2_readGauges_48 9 rfl
theorem dX2_readGauges_100 : decode cX2_readGauges 100 = .ok (.iconst 2, 1) := decs_at DX2_readGauges_48 10 rfl
theorem dX2_readGauges_101 : decode cX2_readGauges 101 = .ok (.iadd, 1) := decs_at DX2_readGauges_48 11 rfl
theorem dX2_readGauges_102 : decode cX2_readGauges 102 = .ok (.invokevirtual 82, 3) := decs_at DX2_readGauges_48 12 rfl
theorem dX2_readGauges_105 : decode cX2_readGauges 105 = .ok (.iastore, 1) := decs_at DX2_readGauges_48 13 rfl
theorem dX2_readGauges_106 : decode cX2_readGauges 106 = .ok (.aload_n 0, 1) := decs_at DX2_readGauges_48 14 rfl
theorem dX2_readGauges_107 : decode cX2_readGauges 107 = .ok (.getfield 32, 3) := decs_at DX2_readGauges_48 15 rfl
theorem dX2_readGauges_110 : decode cX2_readGauges 110 = .ok (.iload_n 3, 1) := decs_at DX2_readGauges_48 16 rfl
theorem dX2_readGauges_111 : decode cX2_readGauges 111 = .ok (.aload_n 1, 1) := decs_at DX2_readGauges_48 17 rfl
theorem dX2_readGauges_112 : decode cX2_readGauges 112 = .ok (.iload 4, 2) := decs_at DX2_readGauges_48 18 rfl
theorem dX2_readGauges_114 : decode cX2_readGauges 114 = .ok (.iconst 4, 1) := decs_at DX2_readGauges_48 19 rfl
theorem dX2_readGauges_115 : decode cX2_readGauges 115 = .ok (.iadd, 1) := decs_at DX2_readGauges_48 20 rfl
theorem dX2_readGauges_116 : decode cX2_readGauges 116 = .ok (.invokevirtual 82, 3) := decs_at DX2_readGauges_48 21 rfl
theorem dX2_readGauges_119 : decode cX2_readGauges 119 = .ok (.iastore, 1) := decs_at DX2_readGauges_48 22 rfl
theorem dX2_readGauges_120 : decode cX2_readGauges 120 = .ok (.aload_n 0, 1) := decs_at DX2_readGauges_48 23 rfl
theorem DX2_readGauges_72 : decs cX2_readGauges [(121, .aload_n 0, 1), (122, .getfield 39, 3), (125, .iload 5, 2), (127, .invokestatic 86, 3), (130, .putfield 39, 3), (133, .iinc 3 1, 3), (136, .goto (-93), 3), (139, .aload_n 0, 1), (140, .iload_n 2, 1), (141, .putfield 35, 3), (144, .iconst 1, 1), (145, .ireturn, 1)] := by unfold decs; decide +kernel
theorem dX2_readGauges_121 : decode cX2_readGauges 121 = .ok (.aload_n 0, 1) := decs_at DX2_readGauges_72 0 rfl
theorem dX2_readGauges_122 : decode cX2_readGauges 122 = .ok (.getfield 39, 3) := decs_at DX2_readGauges_72 1 rfl
theorem dX2_readGauges_125 : decode cX2_readGauges 125 = .ok (.iload 5, 2) := decs_at DX2_readGauges_72 2 rfl
theorem dX2_readGauges_127 : decode cX2_readGauges 127 = .ok (.invokestatic 86, 3) := decs_at DX2_readGauges_72 3 rfl
theorem dX2_readGauges_130 : decode cX2_readGauges 130 = .ok (.putfield 39, 3) := decs_at DX2_readGauges_72 4 rfl
theorem dX2_readGauges_133 : decode cX2_readGauges 133 = .ok (.iinc 3 1, 3) := decs_at DX2_readGauges_72 5 rfl
theorem dX2_readGauges_136 : decode cX2_readGauges 136 = .ok (.goto (-93), 3) := decs_at DX2_readGauges_72 6 rfl
theorem dX2_readGauges_139 : decode cX2_readGauges 139 = .ok (.aload_n 0, 1) := decs_at DX2_readGauges_72 7 rfl
theorem dX2_readGauges_140 : decode cX2_readGauges 140 = .ok (.iload_n 2, 1) := decs_at DX2_readGauges_72 8 rfl
theorem dX2_readGauges_141 : decode cX2_readGauges 141 = .ok (.putfield 35, 3) := decs_at DX2_readGauges_72 9 rfl
theorem dX2_readGauges_144 : decode cX2_readGauges 144 = .ok (.iconst 1, 1) := decs_at DX2_readGauges_72 10 rfl
theorem dX2_readGauges_145 : decode cX2_readGauges 145 = .ok (.ireturn, 1) := decs_at DX2_readGauges_72 11 rfl
theorem DX2_findFitting_0 : decs cX2_findFitting [(0, .aload_n 0, 1), (1, .iconst 0, 1), (2, .putfield 45, 3), (5, .aload_n 0, 1), (6, .aload_n 0, 1), (7, .getfield 70, 3), (10, .getfield 92, 3), (13, .putfield 48, 3), (16, .aload_n 0, 1), (17, .iconst 0, 1), (18, .iload_n 1, 1), (19, .iload_n 2, 1), (20, .invokevirtual 93, 3), (23, .iconst 1, 1), (24, .istore_n 3, 1), (25, .iload_n 3, 1), (26, .aload_n 0, 1), (27, .getfield 70, 3), (30, .getfield 92, 3), (33, .if_icmp .gt 38, 3), (36, .iconst 0, 1), (37, .istore 4, 2), (39, .iload 4, 2), (41, .bipush 7, 2)] := by unfold decs; decide +kernel
theorem dX2_findFitting_0 : decode cX2_findFitting 0 = .ok (.aload_n 0, 1) := decs_at DX2_findFitting_0 0 rfl
theorem dX2_findFitting_1 : decode cX2_findFitting 1 = .ok (.iconst 0, 1) := decs_at DX2_findFitting_0 1 rfl
theorem dX2_findFitting_2 : decode cX2_findFitting 2 = .ok (.putfield 45, 3) := decs_at DX2_findFitting_0 2 rfl
theorem dX2_findFitting_5 : decode cX2_findFitting 5 = .ok (.aload_n 0, 1) := decs_at DX2_findFitting_0 3 rfl
theorem dX2_findFitting_6 : decode cX2_findFitting 6 = .ok (.aload_n 0, 1) := decs_at DX2_findFitting_0 4 rfl
theorem dX2_findFitting_7 : decode cX2_findFitting 7 = .ok (.getfield 70, 3) := decs_at DX2_findFitting_0 5 rfl
theorem dX2_findFitting_10 : decode cX2_findFitting 10 = .ok (.getfield 92, 3) := decs_at DX2_findFitting_0 6 rfl
theorem dX2_findFitting_13 : decode cX2_findFitting 13 = .ok (.putfield 48, 3) := decs_at DX2_findFitting_0 7 rfl
theorem dX2_findFitting_16 : decode cX2_findFitting 16 = .ok (.aload_n 0, 1) := decs_at DX2_findFitting_0 8 rfl
theorem dX2_findFitting_17 : decode cX2_findFitting 17 = .ok (.iconst 0, 1) := decs_at DX2_findFitting_0 9 rfl
theorem dX2_findFitting_18 : decode cX2_findFitting 18 = .ok (.iload_n 1, 1) := decs_at DX2_findFitting_0 10 rfl
theorem dX2_findFitting_19 : decode cX2_findFitting 19 = .ok (.iload_n 2, 1) := decs_at DX2_findFitting_0 11 rfl
theorem dX2_findFitting_20 : decode cX2_findFitting 20 = .ok (.invokevirtual 93, 3) := decs_at DX2_findFitting_0 12 rfl
theorem dX2_findFitting_23 : decode cX2_findFitting 23 = .ok (.iconst 1, 1) := decs_at DX2_findFitting_0 13 rfl
theorem dX2_findFitting_24 : decode cX2_findFitting 24 = .ok (.istore_n 3, 1) := decs_at DX2_findFitting_0 14 rfl
theorem dX2_findFitting_25 : decode cX2_findFitting 25 = .ok (.iload_n 3, 1) := decs_at DX2_findFitting_0 15 rfl
theorem dX2_findFitting_26 : decode cX2_findFitting 26 = .ok (.aload_n 0, 1) := decs_at DX2_findFitting_0 16 rfl
theorem dX2_findFitting_27 : decode cX2_findFitting 27 = .ok (.getfield 70, 3) := decs_at DX2_findFitting_0 17 rfl
theorem dX2_findFitting_30 : decode cX2_findFitting 30 = .ok (.getfield 92, 3) := decs_at DX2_findFitting_0 18 rfl
theorem dX2_findFitting_33 : decode cX2_findFitting 33 = .ok (.if_icmp .gt 38, 3) := decs_at DX2_findFitting_0 19 rfl
theorem dX2_findFitting_36 : decode cX2_findFitting 36 = .ok (.iconst 0, 1) := decs_at DX2_findFitting_0 20 rfl
theorem dX2_findFitting_37 : decode cX2_findFitting 37 = .ok (.istore 4, 2) := decs_at DX2_findFitting_0 21 rfl
theorem dX2_findFitting_39 : decode cX2_findFitting 39 = .ok (.iload 4, 2) := decs_at DX2_findFitting_0 22 rfl
theorem dX2_findFitting_41 : decode cX2_findFitting 41 = .ok (.bipush 7, 2) := decs_at DX2_findFitting_0 23 rfl
theorem DX2_findFitting_24 : decs cX2_findFitting [(43, .if_icmp .ge 22, 3), (46, .aload_n 0, 1), (47, .bipush 10, 2), (49, .iload_n 3, 1), (50, .imul, 1), (51, .iload 4, 2), (53, .iadd, 1), (54, .iload_n 1, 1), (55, .iload_n 2, 1), (56, .invokevirtual 93, 3), (59, .iinc 4 1, 3), (62, .goto (-23), 3), (65, .iinc 3 1, 3), (68, .goto (-43), 3), (71, .aload_n 0, 1), (72, .getfield 45, 3), (75, .ireturn, 1)] := by unfold decs; decide +kernel
theorem dX2_findFitting_43 : decode cX2_findFitting 43 = .ok (.if_icmp .ge 22, 3) := decs_at DX2_findFitting_24 0 rfl
theorem dX2_findFitting_46 : decode cX2_findFitting 46 = .ok (.aload_n 0, 1) := decs_at DX2_findFitting_24 1 rfl
theorem dX2_findFitting_47 : decode cX2_findFitting 47 = .ok (.bipush 10, 2) := decs_at DX2_findFitting_24 2 rfl
theorem dX2_findFitting_49 : decode cX2_findFitting 49 = .ok (.iload_n 3, 1) := decs_at DX2_findFitting_24 3 rfl
theorem dX2_findFitting_50 : decode cX2_findFitting 50 = .ok (.imul, 1) := decs_at DX2_findFitting_24 4 rfl
theorem dX2_findFitting_51 : decode cX2_findFitting 51 = .ok (.iload 4, 2) := decs_at DX2_findFitting_24 5 rfl
theorem dX2_findFitting_53 : decode cX2_findFitting 53 = .ok (.iadd, 1) := decs_at DX2_findFitting_24 6 rfl
theorem dX2_findFitting_54 : decode cX2_findFitting 54 = .ok (.iload_n 1, 1) := decs_at DX2_findFitting_24 7 rfl
theorem dX2_findFitting_55 : decode cX2_findFitting 55 = .ok (.iload_n 2, 1) := decs_at DX2_findFitting_24 8 rfl
theorem dX2_findFitting_56 : decode cX2_findFitting 56 = .ok (.invokevirtual 93, 3) := decs_at DX2_findFitting_24 9 rfl
theorem dX2_findFitting_59 : decode cX2_findFitting 59 = .ok (.iinc 4 1, 3) := decs_at DX2_findFitting_24 10 rfl
theorem dX2_findFitting_62 : decode cX2_findFitting 62 = .ok (.goto (-23), 3) := decs_at DX2_findFitting_24 11 rfl
theorem dX2_findFitting_65 : decode cX2_findFitting 65 = .ok (.iinc 3 1, 3) := decs_at DX2_findFitting_24 12 rfl
theorem dX2_findFitting_68 : decode cX2_findFitting 68 = .ok (.goto (-43), 3) := decs_at DX2_findFitting_24 13 rfl
theorem dX2_findFitting_71 : decode cX2_findFitting 71 = .ok (.aload_n 0, 1) := decs_at DX2_findFitting_24 14 rfl
theorem dX2_findFitting_72 : decode cX2_findFitting 72 = .ok (.getfield 45, 3) := decs_at DX2_findFitting_24 15 rfl
theorem dX2_findFitting_75 : decode cX2_findFitting 75 = .ok (.ireturn, 1) := decs_at DX2_findFitting_24 16 rfl
theorem DX2_tryGuess_0 : decs cX2_tryGuess [(0, .aload_n 0, 1), (1, .iload_n 1, 1), (2, .invokevirtual 97, 3), (5, .aload_n 0, 1), (6, .iload_n 2, 1), (7, .iload_n 3, 1), (8, .invokevirtual 101, 3), (11, .ifCond .eq 32, 3), (14, .aload_n 0, 1), (15, .getfield 45, 3), (18, .bipush 113, 2), (20, .if_icmp .ge 23, 3), (23, .aload_n 0, 1), (24, .getfield 42, 3), (27, .aload_n 0, 1), (28, .getfield 45, 3), (31, .iload_n 1, 1), (32, .iastore, 1), (33, .aload_n 0, 1), (34, .dup, 1), (35, .getfield 45, 3), (38, .iconst 1, 1), (39, .iadd, 1), (40, .putfield 45, 3)] := by unfold decs; decide +kernel
theorem dX2_tryGuess_0 : decode cX2_tryGuess 0 = .ok (.aload_n 0, 1) := decs_at DX2_tryGuess_0 0 rfl
theorem dX2_tryGuess_1 : decode cX2_tryGuess 1 = .ok (.iload_n 1, 1) := decs_at DX2_tryGuess_0 1 rfl
theorem dX2_tryGuess_2 : decode cX2_tryGuess 2 = .ok (.invokevirtual 97, 3) := decs_at DX2_tryGuess_0 2 rfl
theorem dX2_tryGuess_5 : decode cX2_tryGuess 5 = .ok (.aload_n 0, 1) := decs_at DX2_tryGuess_0 3 rfl
theorem dX2_tryGuess_6 : decode cX2_tryGuess 6 = .ok (.iload_n 2, 1) := decs_at DX2_tryGuess_0 4 rfl
theorem dX2_tryGuess_7 : decode cX2_tryGuess 7 = .ok (.iload_n 3, 1) := decs_at DX2_tryGuess_0 5 rfl
theorem dX2_tryGuess_8 : decode cX2_tryGuess 8 = .ok (.invokevirtual 101, 3) := decs_at DX2_tryGuess_0 6 rfl
theorem dX2_tryGuess_11 : decode cX2_tryGuess 11 = .ok (.ifCond .eq 32, 3) := decs_at DX2_tryGuess_0 7 rfl
theorem dX2_tryGuess_14 : decode cX2_tryGuess 14 = .ok (.aload_n 0, 1) := decs_at DX2_tryGuess_0 8 rfl
theorem dX2_tryGuess_15 : decode cX2_tryGuess 15 = .ok (.getfield 45, 3) := decs_at DX2_tryGuess_0 9 rfl
theorem dX2_tryGuess_18 : decode cX2_tryGuess 18 = .ok (.bipush 113, 2) := decs_at DX2_tryGuess_0 10 rfl
theorem dX2_tryGuess_20 : decode cX2_tryGuess 20 = .ok (.if_icmp .ge 23, 3) := decs_at DX2_tryGuess_0 11 rfl
theorem dX2_tryGuess_23 : decode cX2_tryGuess 23 = .ok (.aload_n 0, 1) := decs_at DX2_tryGuess_0 12 rfl
theorem dX2_tryGuess_24 : decode cX2_tryGuess 24 = .ok (.getfield 42, 3) := decs_at DX2_tryGuess_0 13 rfl
theorem dX2_tryGuess_27 : decode cX2_tryGuess 27 = .ok (.aload_n 0, 1) := decs_at DX2_tryGuess_0 14 rfl
theorem dX2_tryGuess_28 : decode cX2_tryGuess 28 = .ok (.getfield 45, 3) := decs_at DX2_tryGuess_0 15 rfl
theorem dX2_tryGuess_31 : decode cX2_tryGuess 31 = .ok (.iload_n 1, 1) := decs_at DX2_tryGuess_0 16 rfl
theorem dX2_tryGuess_32 : decode cX2_tryGuess 32 = .ok (.iastore, 1) := decs_at DX2_tryGuess_0 17 rfl
theorem dX2_tryGuess_33 : decode cX2_tryGuess 33 = .ok (.aload_n 0, 1) := decs_at DX2_tryGuess_0 18 rfl
theorem dX2_tryGuess_34 : decode cX2_tryGuess 34 = .ok (.dup, 1) := decs_at DX2_tryGuess_0 19 rfl
theorem dX2_tryGuess_35 : decode cX2_tryGuess 35 = .ok (.getfield 45, 3) := decs_at DX2_tryGuess_0 20 rfl
theorem dX2_tryGuess_38 : decode cX2_tryGuess 38 = .ok (.iconst 1, 1) := decs_at DX2_tryGuess_0 21 rfl
theorem dX2_tryGuess_39 : decode cX2_tryGuess 39 = .ok (.iadd, 1) := decs_at DX2_tryGuess_0 22 rfl
theorem dX2_tryGuess_40 : decode cX2_tryGuess 40 = .ok (.putfield 45, 3) := decs_at DX2_tryGuess_0 23 rfl
theorem DX2_tryGuess_24 : decs cX2_tryGuess [(43, .return_, 1)] := by unfold decs; decide +kernel
theorem dX2_tryGuess_43 : decode cX2_tryGuess 43 = .ok (.return_, 1) := decs_at DX2_tryGuess_24 0 rfl
theorem DX2_bendBy_0 : decs cX2_bendBy [(0, .iload_n 1, 1), (1, .bipush 10, 2), (3, .idiv, 1), (4, .istore_n 2, 1), (5, .aload_n 0, 1), (6, .getfield 14, 3), (9, .aload_n 0, 1), (10, .getfield 70, 3), (13, .invokevirtual 105, 3), (16, .iload_n 1, 1), (17, .ifCond .ne 4, 3), (20, .return_, 1), (21, .iload_n 1, 1), (22, .bipush 10, 2), (24, .irem, 1), (25, .tableswitch 123 0 5 #[39, 53, 67, 81, 95, 109], 39), (64, .aload_n 0, 1), (65, .getfield 14, 3), (68, .iload_n 2, 1), (69, .iconst 4, 1), (70, .bipush 10, 2), (72, .invokevirtual 109, 3), (75, .goto 84, 3), (78, .aload_n 0, 1)] := by unfold decs; decide +kernel
theorem dX2_bendBy_0 : decode cX2_bendBy 0 = .ok (.iload_n 1, 1) := decs_at DX2_bendBy_0 0 rfl
theorem dX2_bendBy_1 : decode cX2_bendBy 1 = .ok (.bipush 10, 2) := decs_at DX2_bendBy_0 1 rfl
theorem dX2_bendBy_3 : decode cX2_bendBy 3 = .ok (.idiv, 1) := decs_at DX2_bendBy_0 2 rfl
theorem dX2_bendBy_4 : decode cX2_bendBy 4 = .ok (.istore_n 2, 1) := decs_at DX2_bendBy_0 3 rfl
theorem dX2_bendBy_5 : decode cX2_bendBy 5 = .ok (.aload_n 0, 1) := decs_at DX2_bendBy_0 4 rfl
theorem dX2_bendBy_6 : decode cX2_bendBy 6 = .ok (.getfield 14, 3) := decs_at DX2_bendBy_0 5 rfl
theorem dX2_bendBy_9 : decode cX2_bendBy 9 = .ok (.aload_n 0, 1) := decs_at DX2_bendBy_0 6 rfl
theorem dX2_bendBy_10 : decode cX2_bendBy 10 = .ok (.getfield 70, 3) := decs_at DX2_bendBy_0 7 rfl
theorem dX2_bendBy_13 : decode cX2_bendBy 13 = .ok (.invokevirtual 105, 3) := decs_at DX2_bendBy_0 8 rfl
theorem dX2_bendBy_16 : decode cX2_bendBy 16 = .ok (.iload_n 1, 1) := decs_at DX2_bendBy_0 9 rfl
theorem dX2_bendBy_17 : decode cX2_bendBy 17 = .ok (.ifCond .ne 4, 3) := decs_at DX2_bendBy_0 10 rfl
theorem dX2_bendBy_20 : decode cX2_bendBy 20 = .ok (.return_, 1) := decs_at DX2_bendBy_0 11 rfl
theorem dX2_bendBy_21 : decode cX2_bendBy 21 = .ok (.iload_n 1, 1) := decs_at DX2_bendBy_0 12 rfl
theorem dX2_bendBy_22 : decode cX2_bendBy 22 = .ok (.bipush 10, 2) := decs_at DX2_bendBy_0 13 rfl
theorem dX2_bendBy_24 : decode cX2_bendBy 24 = .ok (.irem, 1) := decs_at DX2_bendBy_0 14 rfl
theorem dX2_bendBy_25 : decode cX2_bendBy 25 = .ok (.tableswitch 123 0 5 #[39, 53, 67, 81, 95, 109], 39) := decs_at DX2_bendBy_0 15 rfl
theorem dX2_bendBy_64 : decode cX2_bendBy 64 = .ok (.aload_n 0, 1) := decs_at DX2_bendBy_0 16 rfl
theorem dX2_bendBy_65 : decode cX2_bendBy 65 = .ok (.getfield 14, 3) := decs_at DX2_bendBy_0 17 rfl
theorem dX2_bendBy_68 : decode cX2_bendBy 68 = .ok (.iload_n 2, 1) := decs_at DX2_bendBy_0 18 rfl
theorem dX2_bendBy_69 : decode cX2_bendBy 69 = .ok (.iconst 4, 1) := decs_at DX2_bendBy_0 19 rfl
theorem dX2_bendBy_70 : decode cX2_bendBy 70 = .ok (.bipush 10, 2) := decs_at DX2_bendBy_0 20 rfl
theorem dX2_bendBy_72 : decode cX2_bendBy 72 = .ok (.invokevirtual 109, 3) := decs_at DX2_bendBy_0 21 rfl
theorem dX2_bendBy_75 : decode cX2_bendBy 75 = .ok (.goto 84, 3) := decs_at DX2_bendBy_0 22 rfl
theorem dX2_bendBy_78 : decode cX2_bendBy 78 = .ok (.aload_n 0, 1) := decs_at DX2_bendBy_0 23 rfl
theorem DX2_bendBy_24 : decs cX2_bendBy [(79, .getfield 14, 3), (82, .iload_n 2, 1), (83, .iconst 4, 1), (84, .bipush 20, 2), (86, .invokevirtual 109, 3), (89, .goto 70, 3), (92, .aload_n 0, 1), (93, .getfield 14, 3), (96, .iload_n 2, 1), (97, .iconst 4, 1), (98, .bipush 40, 2), (100, .invokevirtual 109, 3), (103, .goto 56, 3), (106, .aload_n 0, 1), (107, .getfield 14, 3), (110, .iload_n 2, 1), (111, .iconst 5, 1), (112, .bipush 10, 2), (114, .invokevirtual 109, 3), (117, .goto 42, 3), (120, .aload_n 0, 1), (121, .getfield 14, 3), (124, .iload_n 2, 1), (125, .iconst 5, 1)] := by unfold decs; decide +kernel
theorem dX2_bendBy_79 : decode cX2_bendBy 79 = .ok (.getfield 14, 3) := decs_at DX2_bendBy_24 0 rfl
theorem dX2_bendBy_82 : decode cX2_bendBy 82 = .ok (.iload_n 2, 1) := decs_at DX2_bendBy_24 1 rfl
theorem dX2_bendBy_83 : decode cX2_bendBy 83 = .ok (.iconst 4, 1) := decs_at DX2_bendBy_24 2 rfl
theorem dX2_bendBy_84 : decode cX2_bendBy 84 = .ok (.bipush 20, 2) := decs_at DX2_bendBy_24 3 rfl
theorem dX2_bendBy_86 : decode cX2_bendBy 86 = .ok (.invokevirtual 109, 3) := decs_at DX2_bendBy_24 4 rfl
theorem dX2_bendBy_89 : decode cX2_bendBy 89 = .ok (.goto 70, 3) := decs_at DX2_bendBy_24 5 rfl
theorem dX2_bendBy_92 : decode cX2_bendBy 92 = .ok (.aload_n 0, 1) := decs_at DX2_bendBy_24 6 rfl
theorem dX2_bendBy_93 : decode cX2_bendBy 93 = .ok (.getfield 14, 3) := decs_at DX2_bendBy_24 7 rfl
theorem dX2_bendBy_96 : decode cX2_bendBy 96 = .ok (.iload_n 2, 1) := decs_at DX2_bendBy_24 8 rfl
theorem dX2_bendBy_97 : decode cX2_bendBy 97 = .ok (.iconst 4, 1) := decs_at DX2_bendBy_24 9 rfl
theorem dX2_bendBy_98 : decode cX2_bendBy 98 = .ok (.bipush 40, 2) := decs_at DX2_bendBy_24 10 rfl
theorem dX2_bendBy_100 : decode cX2_bendBy 100 = .ok (.invokevirtual 109, 3) := decs_at DX2_bendBy_24 11 rfl
theorem dX2_bendBy_103 : decode cX2_bendBy 103 = .ok (.goto 56, 3) := decs_at DX2_bendBy_24 12 rfl
theorem dX2_bendBy_106 : decode cX2_bendBy 106 = .ok (.aload_n 0, 1) := decs_at DX2_bendBy_24 13 rfl
theorem dX2_bendBy_107 : decode cX2_bendBy 107 = .ok (.getfield 14, 3) := decs_at DX2_bendBy_24 14 rfl
theorem dX2_bendBy_110 : decode cX2_bendBy 110 = .ok (.iload_n 2, 1) := decs_at DX2_bendBy_24 15 rfl
theorem dX2_bendBy_111 : decode cX2_bendBy 111 = .ok (.iconst 5, 1) := decs_at DX2_bendBy_24 16 rfl
theorem dX2_bendBy_112 : decode cX2_bendBy 112 = .ok (.bipush 10, 2) := decs_at DX2_bendBy_24 17 rfl
theorem dX2_bendBy_114 : decode cX2_bendBy 114 = .ok (.invokevirtual 109, 3) := decs_at DX2_bendBy_24 18 rfl
theorem dX2_bendBy_117 : decode cX2_bendBy 117 = .ok (.goto 42, 3) := decs_at DX2_bendBy_24 19 rfl
theorem dX2_bendBy_120 : decode cX2_bendBy 120 = .ok (.aload_n 0, 1) := decs_at DX2_bendBy_24 20 rfl
theorem dX2_bendBy_121 : decode cX2_bendBy 121 = .ok (.getfield 14, 3) := decs_at DX2_bendBy_24 21 rfl
theorem dX2_bendBy_124 : decode cX2_bendBy 124 = .ok (.iload_n 2, 1) := decs_at DX2_bendBy_24 22 rfl
theorem dX2_bendBy_125 : decode cX2_bendBy 125 = .ok (.iconst 5, 1) := decs_at DX2_bendBy_24 23 rfl
theorem DX2_bendBy_48 : decs cX2_bendBy [(126, .bipush 30, 2), (128, .invokevirtual 109, 3), (131, .goto 28, 3), (134, .aload_n 0, 1), (135, .getfield 14, 3), (138, .iload_n 2, 1), (139, .bipush 6, 2), (141, .iconst 1, 1), (142, .invokevirtual 109, 3), (145, .goto 14, 3), (148, .aload_n 0, 1), (149, .getfield 14, 3), (152, .iload_n 2, 1), (153, .bipush 6, 2), (155, .iconst 2, 1), (156, .invokevirtual 109, 3), (159, .return_, 1)] := by unfold decs; decide +kernel
theorem dX2_bendBy_126 : decode cX2_bendBy 126 = .ok (.bipush 30, 2) := decs_at DX2_bendBy_48 0 rfl
theorem dX2_bendBy_128 : decode cX2_bendBy 128 = .ok (.invokevirtual 109, 3) := decs_at DX2_bendBy_48 1 rfl
theorem dX2_bendBy_131 : decode cX2_bendBy 131 = .ok (.goto 28, 3) := decs_at DX2_bendBy_48 2 rfl
theorem dX2_bendBy_134 : decode cX2_bendBy 134 = .ok (.aload_n 0, 1) := decs_at DX2_bendBy_48 3 rfl
theorem dX2_bendBy_135 : decode cX2_bendBy 135 = .ok (.getfield 14, 3) := decs_at DX2_bendBy_48 4 rfl
theorem dX2_bendBy_138 : decode cX2_bendBy 138 = .ok (.iload_n 2, 1) := decs_at DX2_bendBy_48 5 rfl
theorem dX2_bendBy_139 : decode cX2_bendBy 139 = .ok (.bipush 6, 2) := decs_at DX2_bendBy_48 6 rfl
theorem dX2_bendBy_141 : decode cX2_bendBy 141 = .ok (.iconst 1, 1) := decs_at DX2_bendBy_48 7 rfl
theorem dX2_bendBy_142 : decode cX2_bendBy 142 = .ok (.invokevirtual 109, 3) := decs_at DX2_bendBy_48 8 rfl
theorem dX2_bendBy_145 : decode cX2_bendBy 145 = .ok (.goto 14, 3) := decs_at DX2_bendBy_48 9 rfl
theorem dX2_bendBy_148 : decode cX2_bendBy 148 = .ok (.aload_n 0, 1) := decs_at DX2_bendBy_48 10 rfl
theorem dX2_bendBy_149 : decode cX2_bendBy 149 = .ok (.getfield 14, 3) := decs_at DX2_bendBy_48 11 rfl
theorem dX2_bendBy_152 : decode cX2_bendBy 152 = .ok (.iload_n 2, 1) := decs_at DX2_bendBy_48 12 rfl
theorem dX2_bendBy_153 : decode cX2_bendBy 153 = .ok (.bipush 6, 2) := decs_at DX2_bendBy_48 13 rfl
theorem dX2_bendBy_155 : decode cX2_bendBy 155 = .ok (.iconst 2, 1) := decs_at DX2_bendBy_48 14 rfl
theorem dX2_bendBy_156 : decode cX2_bendBy 156 = .ok (.invokevirtual 109, 3) := decs_at DX2_bendBy_48 15 rfl
theorem dX2_bendBy_159 : decode cX2_bendBy 159 = .ok (.return_, 1) := decs_at DX2_bendBy_48 16 rfl
theorem DX2_doesFit_0 : decs cX2_doesFit [(0, .aload_n 0, 1), (1, .getfield 21, 3), (4, .aload_n 0, 1), (5, .getfield 14, 3), (8, .invokevirtual 112, 3), (11, .iconst 1, 1), (12, .istore_n 3, 1), (13, .iload_n 3, 1), (14, .aload_n 0, 1), (15, .getfield 39, 3), (18, .if_icmp .gt 35, 3), (21, .aload_n 0, 1), (22, .getfield 21, 3), (25, .aload_n 0, 1), (26, .getfield 14, 3), (29, .aload_n 0, 1), (30, .getfield 73, 3), (33, .invokevirtual 115, 3), (36, .aload_n 0, 1), (37, .iload_n 3, 1), (38, .iload_n 1, 1), (39, .invokevirtual 119, 3), (42, .ifCond .ne 5, 3), (45, .iconst 0, 1)] := by unfold decs; decide +kernel
theorem dX2_doesFit_0 : decode cX2_doesFit 0 = .ok (.aload_n 0, 1) := decs_at DX2_doesFit_0 0 rfl
theorem dX2_doesFit_1 : decode cX2_doesFit 1 = .ok (.getfield 21, 3) := decs_at DX2_doesFit_0 1 rfl
theorem dX2_doesFit_4 : decode cX2_doesFit 4 = .ok (.aload_n 0, 1) := decs_at DX2_doesFit_0 2 rfl
theorem dX2_doesFit_5 : decode cX2_doesFit 5 = .ok (.getfield 14, 3) := decs_at DX2_doesFit_0 3 rfl
theorem dX2_doesFit_8 : decode cX2_doesFit 8 = .ok (.invokevirtual 112, 3) := decs_at DX2_doesFit_0 4 rfl
theorem dX2_doesFit_11 : decode cX2_doesFit 11 = .ok (.iconst 1, 1) := decs_at DX2_doesFit_0 5 rfl
theorem dX2_doesFit_12 : decode cX2_doesFit 12 = .ok (.istore_n 3, 1) := decs_at DX2_doesFit_0 6 rfl
theorem dX2_doesFit_13 : decode cX2_doesFit 13 = .ok (.iload_n 3, 1) := decs_at DX2_doesFit_0 7 rfl
theorem dX2_doesFit_14 : decode cX2_doesFit 14 = .ok (.aload_n 0, 1) := decs_at DX2_doesFit_0 8 rfl
theorem dX2_doesFit_15 : decode cX2_doesFit 15 = .ok (.getfield 39, 3) := decs_at DX2_doesFit_0 9 rfl
theorem dX2_doesFit_18 : decode cX2_doesFit 18 = .ok (.if_icmp .gt 35, 3) := decs_at DX2_doesFit_0 10 rfl
theorem dX2_doesFit_21 : decode cX2_doesFit 21 = .ok (.aload_n 0, 1) := decs_at DX2_doesFit_0 11 rfl
theorem dX2_doesFit_22 : decode cX2_doesFit 22 = .ok (.getfield 21, 3) := decs_at DX2_doesFit_0 12 rfl
theorem dX2_doesFit_25 : decode cX2_doesFit 25 = .ok (.aload_n 0, 1) := decs_at DX2_doesFit_0 13 rfl
theorem dX2_doesFit_26 : decode cX2_doesFit 26 = .ok (.getfield 14, 3) := decs_at DX2_doesFit_0 14 rfl
theorem dX2_doesFit_29 : decode cX2_doesFit 29 = .ok (.aload_n 0, 1) := decs_at DX2_doesFit_0 15 rfl
theorem dX2_doesFit_30 : decode cX2_doesFit 30 = .ok (.getfield 73, 3) := decs_at DX2_doesFit_0 16 rfl
theorem dX2_doesFit_33 : decode cX2_doesFit 33 = .ok (.invokevirtual 115, 3) := decs_at DX2_doesFit_0 17 rfl
theorem dX2_doesFit_36 : decode cX2_doesFit 36 = .ok (.aload_n 0, 1) := decs_at DX2_doesFit_0 18 rfl
theorem dX2_doesFit_37 : decode cX2_doesFit 37 = .ok (.iload_n 3, 1) := decs_at DX2_doesFit_0 19 rfl
theorem dX2_doesFit_38 : decode cX2_doesFit 38 = .ok (.iload_n 1, 1) := decs_at DX2_doesFit_0 20 rfl
theorem dX2_doesFit_39 : decode cX2_doesFit 39 = .ok (.invokevirtual 119, 3) := decs_at DX2_doesFit_0 21 rfl
theorem dX2_doesFit_42 : decode cX2_doesFit 42 = .ok (.ifCond .ne 5, 3) := decs_at DX2_doesFit_0 22 rfl
theorem dX2_doesFit_45 : decode cX2_doesFit 45 = .ok (.iconst 0, 1) := decs_at DX2_doesFit_0 23 rfl
theorem DX2_doesFit_24 : decs cX2_doesFit [(46, .ireturn, 1), (47, .iinc 3 1, 3), (50, .goto (-37), 3), (53, .iload_n 2, 1), (54, .iconst (-1), 1), (55, .if_icmp .eq 18, 3), (58, .aload_n 0, 1), (59, .getfield 21, 3), (62, .aload_n 0, 1), (63, .getfield 14, 3), (66, .invokevirtual 122, 3), (69, .iload_n 2, 1), (70, .if_icmp .ne 7, 3), (73, .iconst 1, 1), (74, .goto 4, 3), (77, .iconst 0, 1), (78, .ireturn, 1)] := by unfold decs; decide +kernel
theorem dX2_doesFit_46 : decode cX2_doesFit 46 = .ok (.ireturn, 1) := decs_at DX2_doesFit_24 0 rfl
theorem dX2_doesFit_47 : decode cX2_doesFit 47 = .ok (.iinc 3 1, 3) := decs_at DX2_doesFit_24 1 rfl
theorem dX2_doesFit_50 : decode cX2_doesFit 50 = .ok (.goto (-37), 3) := decs_at DX2_doesFit_24 2 rfl
theorem dX2_doesFit_53 : decode cX2_doesFit 53 = .ok (.iload_n 2, 1) := decs_at DX2_doesFit_24 3 rfl
theorem dX2_doesFit_54 : decode cX2_doesFit 54 = .ok (.iconst (-1), 1) := decs_at DX2_doesFit_24 4 rfl
theorem dX2_doesFit_55 : decode cX2_doesFit 55 = .ok (.if_icmp .eq 18, 3) := decs_at DX2_doesFit_24 5 rfl
theorem dX2_doesFit_58 : decode cX2_doesFit 58 = .ok (.aload_n 0, 1) := decs_at DX2_doesFit_24 6 rfl
theorem dX2_doesFit_59 : decode cX2_doesFit 59 = .ok (.getfield 21, 3) := decs_at DX2_doesFit_24 7 rfl
theorem dX2_doesFit_62 : decode cX2_doesFit 62 = .ok (.aload_n 0, 1) := decs_at DX2_doesFit_24 8 rfl
theorem dX2_doesFit_63 : decode cX2_doesFit 63 = .ok (.getfield 14, 3) := decs_at DX2_doesFit_24 9 rfl
theorem dX2_doesFit_66 : decode cX2_doesFit 66 = .ok (.invokevirtual 122, 3) := decs_at DX2_doesFit_24 10 rfl
theorem dX2_doesFit_69 : decode cX2_doesFit 69 = .ok (.iload_n 2, 1) := decs_at DX2_doesFit_24 11 rfl
theorem dX2_doesFit_70 : decode cX2_doesFit 70 = .ok (.if_icmp .ne 7, 3) := decs_at DX2_doesFit_24 12 rfl
theorem dX2_doesFit_73 : decode cX2_doesFit 73 = .ok (.iconst 1, 1) := decs_at DX2_doesFit_24 13 rfl
theorem dX2_doesFit_74 : decode cX2_doesFit 74 = .ok (.goto 4, 3) := decs_at DX2_doesFit_24 14 rfl
theorem dX2_doesFit_77 : decode cX2_doesFit 77 = .ok (.iconst 0, 1) := decs_at DX2_doesFit_24 15 rfl
theorem dX2_doesFit_78 : decode cX2_doesFit 78 = .ok (.ireturn, 1) := decs_at DX2_doesFit_24 16 rfl
theorem DX2_agrees_0 : decs cX2_agrees [(0, .aload_n 0, 1), (1, .getfield 21, 3), (4, .iconst 0, 1), (5, .iconst 0, 1), (6, .invokevirtual 126, 3), (9, .istore_n 3, 1), (10, .aload_n 0, 1), (11, .getfield 21, 3), (14, .aload_n 0, 1), (15, .getfield 14, 3), (18, .getfield 92, 3), (21, .iconst 0, 1), (22, .invokevirtual 126, 3), (25, .istore 4, 2), (27, .iconst 0, 1), (28, .istore 5, 2), (30, .iload 5, 2), (32, .aload_n 0, 1), (33, .getfield 35, 3), (36, .if_icmp .ge 62, 3), (39, .iload 5, 2), (41, .bipush 8, 2), (43, .if_icmp .ge 55, 3), (46, .aload_n 0, 1)] := by unfold decs; decide +kernel
theorem dX2_agrees_0 : decode cX2_agrees 0 = .ok (.aload_n 0, 1) := decs_at DX2_agrees_0 0 rfl
theorem dX2_agrees_1 : decode cX2_agrees 1 = .ok (.getfield 21, 3) := decs_at DX2_agrees_0 1 rfl
theorem dX2_agrees_4 : decode cX2_agrees 4 = .ok (.iconst 0, 1) := decs_at DX2_agrees_0 2 rfl
theorem dX2_agrees_5 : decode cX2_agrees 5 = .ok (.iconst 0, 1) := decs_at DX2_agrees_0 3 rfl
theorem dX2_agrees_6 : decode cX2_agrees 6 = .ok (.invokevirtual 126, 3) := decs_at DX2_agrees_0 4 rfl
theorem dX2_agrees_9 : decode cX2_agrees 9 = .ok (.istore_n 3, 1) := decs_at DX2_agrees_0 5 rfl
theorem dX2_agrees_10 : decode cX2_agrees 10 = .ok (.aload_n 0, 1) := decs_at DX2_agrees_0 6 rfl
theorem dX2_agrees_11 : decode cX2_agrees 11 = .ok (.getfield 21, 3) := decs_at DX2_agrees_0 7 rfl
theorem dX2_agrees_14 : decode cX2_agrees 14 = .ok (.aload_n 0, 1) := decs_at DX2_agrees_0 8 rfl
theorem dX2_agrees_15 : decode cX2_agrees 15 = .ok (.getfield 14, 3) := decs_at DX2_agrees_0 9 rfl
theorem dX2_agrees_18 : decode cX2_agrees 18 = .ok (.getfield 92, 3) := decs_at DX2_agrees_0 10 rfl
theorem dX2_agrees_21 : decode cX2_agrees 21 = .ok (.iconst 0, 1) := decs_at DX2_agrees_0 11 rfl
theorem dX2_agrees_22 : decode cX2_agrees 22 = .ok (.invokevirtual 126, 3) := decs_at DX2_agrees_0 12 rfl
theorem dX2_agrees_25 : decode cX2_agrees 25 = .ok (.istore 4, 2) := decs_at DX2_agrees_0 13 rfl
theorem dX2_agrees_27 : decode cX2_agrees 27 = .ok (.iconst 0, 1) := decs_at DX2_agrees_0 14 rfl
theorem dX2_agrees_28 : decode cX2_agrees 28 = .ok (.istore 5, 2) := decs_at DX2_agrees_0 15 rfl
theorem dX2_agrees_30 : decode cX2_agrees 30 = .ok (.iload 5, 2) := decs_at DX2_agrees_0 16 rfl
theorem dX2_agrees_32 : decode cX2_agrees 32 = .ok (.aload_n 0, 1) := decs_at DX2_agrees_0 17 rfl
theorem dX2_agrees_33 : decode cX2_agrees 33 = .ok (.getfield 35, 3) := decs_at DX2_agrees_0 18 rfl
theorem dX2_agrees_36 : decode cX2_agrees 36 = .ok (.if_icmp .ge 62, 3) := decs_at DX2_agrees_0 19 rfl
theorem dX2_agrees_39 : decode cX2_agrees 39 = .ok (.iload 5, 2) := decs_at DX2_agrees_0 20 rfl
theorem dX2_agrees_41 : decode cX2_agrees 41 = .ok (.bipush 8, 2) := decs_at DX2_agrees_0 21 rfl
theorem dX2_agrees_43 : decode cX2_agrees 43 = .ok (.if_icmp .ge 55, 3) := decs_at DX2_agrees_0 22 rfl
theorem dX2_agrees_46 : decode cX2_agrees 46 = .ok (.aload_n 0, 1) := decs_at DX2_agrees_0 23 rfl
theorem DX2_agrees_24 : decs cX2_agrees [(47, .getfield 25, 3), (50, .iload 5, 2), (52, .iaload, 1), (53, .iload_n 1, 1), (54, .if_icmp .ne 38, 3), (57, .aload_n 0, 1), (58, .getfield 29, 3), (61, .iload 5, 2), (63, .iaload, 1), (64, .iload_n 3, 1), (65, .isub, 1), (66, .invokestatic 129, 3), (69, .iload_n 2, 1), (70, .if_icmp .gt 20, 3), (73, .aload_n 0, 1), (74, .getfield 32, 3), (77, .iload 5, 2), (79, .iaload, 1), (80, .iload 4, 2), (82, .isub, 1), (83, .invokestatic 129, 3), (86, .iload_n 2, 1), (87, .if_icmp .le 5, 3), (90, .iconst 0, 1)] := by unfold decs; decide +kernel
theorem dX2_agrees_47 : decode cX2_agrees 47 = .ok (.getfield 25, 3) := decs_at DX2_agrees_24 0 rfl
theorem dX2_agrees_50 : decode cX2_agrees 50 = .ok (.iload 5, 2) := decs_at DX2_agrees_24 1 rfl
theorem dX2_agrees_52 : decode cX2_agrees 52 = .ok (.iaload, 1) := decs_at DX2_agrees_24 2 rfl
theorem dX2_agrees_53 : decode cX2_agrees 53 = .ok (.iload_n 1, 1) := decs_at DX2_agrees_24 3 rfl
theorem dX2_agrees_54 : decode cX2_agrees 54 = .ok (.if_icmp .ne 38, 3) := decs_at DX2_agrees_24 4 rfl
theorem dX2_agrees_57 : decode cX2_agrees 57 = .ok (.aload_n 0, 1) := decs_at DX2_agrees_24 5 rfl
theorem dX2_agrees_58 : decode cX2_agrees 58 = .ok (.getfield 29, 3) := decs_at DX2_agrees_24 6 rfl
theorem dX2_agrees_61 : decode cX2_agrees 61 = .ok (.iload 5, 2) := decs_at DX2_agrees_24 7 rfl
theorem dX2_agrees_63 : decode cX2_agrees 63 = .ok (.iaload, 1) := decs_at DX2_agrees_24 8 rfl
theorem dX2_agrees_64 : decode cX2_agrees 64 = .ok (.iload_n 3, 1) := decs_at DX2_agrees_24 9 rfl
theorem dX2_agrees_65 : decode cX2_agrees 65 = .ok (.isub, 1) := decs_at DX2_agrees_24 10 rfl
theorem dX2_agrees_66 : decode cX2_agrees 66 = .ok (.invokestatic 129, 3) := decs_at DX2_agrees_24 11 rfl
theorem dX2_agrees_69 : decode cX2_agrees 69 = .ok (.iload_n 2, 1) := decs_at DX2_agrees_24 12 rfl
theorem dX2_agrees_70 : decode cX2_agrees 70 = .ok (.if_icmp .gt 20, 3) := decs_at DX2_agrees_24 13 rfl
theorem dX2_agrees_73 : decode cX2_agrees 73 = .ok (.aload_n 0, 1) := decs_at DX2_agrees_24 14 rfl
theorem dX2_agrees_74 : decode cX2_agrees 74 = .ok (.getfield 32, 3) := decs_at DX2_agrees_24 15 rfl
theorem dX2_agrees_77 : decode cX2_agrees 77 = .ok (.iload 5, 2) := decs_at DX2_agrees_24 16 rfl
theorem dX2_agrees_79 : decode cX2_agrees 79 = .ok (.iaload, 1) := decs_at DX2_agrees_24 17 rfl
theorem dX2_agrees_80 : decode cX2_agrees 80 = .ok (.iload 4, 2) := decs_at DX2_agrees_24 18 rfl
theorem dX2_agrees_82 : decode cX2_agrees 82 = .ok (.isub, 1) := decs_at DX2_agrees_24 19 rfl
theorem dX2_agrees_83 : decode cX2_agrees 83 = .ok (.invokestatic 129, 3) := decs_at DX2_agrees_24 20 rfl
theorem dX2_agrees_86 : decode cX2_agrees 86 = .ok (.iload_n 2, 1) := decs_at DX2_agrees_24 21 rfl
theorem dX2_agrees_87 : decode cX2_agrees 87 = .ok (.if_icmp .le 5, 3) := decs_at DX2_agrees_24 22 rfl
theorem dX2_agrees_90 : decode cX2_agrees 90 = .ok (.iconst 0, 1) := decs_at DX2_agrees_24 23 rfl
theorem DX2_agrees_48 : decs cX2_agrees [(91, .ireturn, 1), (92, .iinc 5 1, 3), (95, .goto (-65), 3), (98, .iconst 1, 1), (99, .ireturn, 1)] := by unfold decs; decide +kernel
theorem dX2_agrees_91 : decode cX2_agrees 91 = .ok (.ireturn, 1) := decs_at DX2_agrees_48 0 rfl
theorem dX2_agrees_92 : decode cX2_agrees 92 = .ok (.iinc 5 1, 3) := decs_at DX2_agrees_48 1 rfl
theorem dX2_agrees_95 : decode cX2_agrees 95 = .ok (.goto (-65), 3) := decs_at DX2_agrees_48 2 rfl
theorem dX2_agrees_98 : decode cX2_agrees 98 = .ok (.iconst 1, 1) := decs_at DX2_agrees_48 3 rfl
theorem dX2_agrees_99 : decode cX2_agrees 99 = .ok (.ireturn, 1) := decs_at DX2_agrees_48 4 rfl
theorem DX2_fittingAt_0 : decs cX2_fittingAt [(0, .iload_n 1, 1), (1, .ifCond .lt 26, 3), (4, .iload_n 1, 1), (5, .aload_n 0, 1), (6, .getfield 45, 3), (9, .if_icmp .ge 18, 3), (12, .iload_n 1, 1), (13, .bipush 113, 2), (15, .if_icmp .ge 12, 3), (18, .aload_n 0, 1), (19, .getfield 42, 3), (22, .iload_n 1, 1), (23, .iaload, 1), (24, .goto 4, 3), (27, .iconst (-1), 1), (28, .ireturn, 1)] := by unfold decs; decide +kernel
theorem dX2_fittingAt_0 : decode cX2_fittingAt 0 = .ok (.iload_n 1, 1) := decs_at DX2_fittingAt_0 0 rfl
theorem dX2_fittingAt_1 : decode cX2_fittingAt 1 = .ok (.ifCond .lt 26, 3) := decs_at DX2_fittingAt_0 1 rfl
theorem dX2_fittingAt_4 : decode cX2_fittingAt 4 = .ok (.iload_n 1, 1) := decs_at DX2_fittingAt_0 2 rfl
theorem dX2_fittingAt_5 : decode cX2_fittingAt 5 = .ok (.aload_n 0, 1) := decs_at DX2_fittingAt_0 3 rfl
theorem dX2_fittingAt_6 : decode cX2_fittingAt 6 = .ok (.getfield 45, 3) := decs_at DX2_fittingAt_0 4 rfl
theorem dX2_fittingAt_9 : decode cX2_fittingAt 9 = .ok (.if_icmp .ge 18, 3) := decs_at DX2_fittingAt_0 5 rfl
theorem dX2_fittingAt_12 : decode cX2_fittingAt 12 = .ok (.iload_n 1, 1) := decs_at DX2_fittingAt_0 6 rfl
theorem dX2_fittingAt_13 : decode cX2_fittingAt 13 = .ok (.bipush 113, 2) := decs_at DX2_fittingAt_0 7 rfl
theorem dX2_fittingAt_15 : decode cX2_fittingAt 15 = .ok (.if_icmp .ge 12, 3) := decs_at DX2_fittingAt_0 8 rfl
theorem dX2_fittingAt_18 : decode cX2_fittingAt 18 = .ok (.aload_n 0, 1) := decs_at DX2_fittingAt_0 9 rfl
theorem dX2_fittingAt_19 : decode cX2_fittingAt 19 = .ok (.getfield 42, 3) := decs_at DX2_fittingAt_0 10 rfl
theorem dX2_fittingAt_22 : decode cX2_fittingAt 22 = .ok (.iload_n 1, 1) := decs_at DX2_fittingAt_0 11 rfl
theorem dX2_fittingAt_23 : decode cX2_fittingAt 23 = .ok (.iaload, 1) := decs_at DX2_fittingAt_0 12 rfl
theorem dX2_fittingAt_24 : decode cX2_fittingAt 24 = .ok (.goto 4, 3) := decs_at DX2_fittingAt_0 13 rfl
theorem dX2_fittingAt_27 : decode cX2_fittingAt 27 = .ok (.iconst (-1), 1) := decs_at DX2_fittingAt_0 14 rfl
theorem dX2_fittingAt_28 : decode cX2_fittingAt 28 = .ok (.ireturn, 1) := decs_at DX2_fittingAt_0 15 rfl
theorem DX2_canWalk_0 : decs cX2_canWalk [(0, .aload_n 0, 1), (1, .getfield 48, 3), (4, .ifCond .le 21, 3), (7, .aload_n 0, 1), (8, .getfield 48, 3), (11, .aload_n 0, 1), (12, .getfield 70, 3), (15, .getfield 92, 3), (18, .if_icmp .ne 7, 3), (21, .iconst 1, 1), (22, .goto 4, 3), (25, .iconst 0, 1), (26, .ireturn, 1)] := by unfold decs; decide +kernel
theorem dX2_canWalk_0 : decode cX2_canWalk 0 = .ok (.aload_n 0, 1) := decs_at DX2_canWalk_0 0 rfl
theorem dX2_canWalk_1 : decode cX2_canWalk 1 = .ok (.getfield 48, 3) := decs_at DX2_canWalk_0 1 rfl
theorem dX2_canWalk_4 : decode cX2_canWalk 4 = .ok (.ifCond .le 21, 3) := decs_at DX2_canWalk_0 2 rfl
theorem dX2_canWalk_7 : decode cX2_canWalk 7 = .ok (.aload_n 0, 1) := decs_at DX2_canWalk_0 3 rfl
theorem dX2_canWalk_8 : decode cX2_canWalk 8 = .ok (.getfield 48, 3) := decs_at DX2_canWalk_0 4 rfl
theorem dX2_canWalk_11 : decode cX2_canWalk 11 = .ok (.aload_n 0, 1) := decs_at DX2_canWalk_0 5 rfl
theorem dX2_canWalk_12 : decode cX2_canWalk 12 = .ok (.getfield 70, 3) := decs_at DX2_canWalk_0 6 rfl
theorem dX2_canWalk_15 : decode cX2_canWalk 15 = .ok (.getfield 92, 3) := decs_at DX2_canWalk_0 7 rfl
theorem dX2_canWalk_18 : decode cX2_canWalk 18 = .ok (.if_icmp .ne 7, 3) := decs_at DX2_canWalk_0 8 rfl
theorem dX2_canWalk_21 : decode cX2_canWalk 21 = .ok (.iconst 1, 1) := decs_at DX2_canWalk_0 9 rfl
theorem dX2_canWalk_22 : decode cX2_canWalk 22 = .ok (.goto 4, 3) := decs_at DX2_canWalk_0 10 rfl
theorem dX2_canWalk_25 : decode cX2_canWalk 25 = .ok (.iconst 0, 1) := decs_at DX2_canWalk_0 11 rfl
theorem dX2_canWalk_26 : decode cX2_canWalk 26 = .ok (.ireturn, 1) := decs_at DX2_canWalk_0 12 rfl
theorem DX2_findWalk_0 : decs cX2_findWalk [(0, .aload_n 0, 1), (1, .iconst 0, 1), (2, .putfield 57, 3), (5, .aload_n 0, 1), (6, .iconst 0, 1), (7, .putfield 67, 3), (10, .iconst 0, 1), (11, .istore_n 2, 1), (12, .iload_n 2, 1), (13, .aload_n 0, 1), (14, .getfield 45, 3), (17, .if_icmp .ge 79, 3), (20, .iload_n 2, 1), (21, .bipush 113, 2), (23, .if_icmp .ge 73, 3), (26, .aload_n 0, 1), (27, .aload_n 0, 1), (28, .getfield 42, 3), (31, .iload_n 2, 1), (32, .iaload, 1), (33, .invokevirtual 97, 3), (36, .aload_n 0, 1), (37, .getfield 21, 3), (40, .aload_n 0, 1)] := by unfold decs; decide +kernel
theorem dX2_findWalk_0 : decode cX2_findWalk 0 = .ok (.aload_n 0, 1) := decs_at DX2_findWalk_0 0 rfl
theorem dX2_findWalk_1 : decode cX2_findWalk 1 = .ok (.iconst 0, 1) := decs_at DX2_findWalk_0 1 rfl
theorem dX2_findWalk_2 : decode cX2_findWalk 2 = .ok (.putfield 57, 3) := decs_at DX2_findWalk_0 2 rfl
theorem dX2_findWalk_5 : decode cX2_findWalk 5 = .ok (.aload_n 0, 1) := decs_at DX2_findWalk_0 3 rfl
theorem dX2_findWalk_6 : decode cX2_findWalk 6 = .ok (.iconst 0, 1) := decs_at DX2_findWalk_0 4 rfl
theorem dX2_findWalk_7 : decode cX2_findWalk 7 = .ok (.putfield 67, 3) := decs_at DX2_findWalk_0 5 rfl
theorem dX2_findWalk_10 : decode cX2_findWalk 10 = .ok (.iconst 0, 1) := decs_at DX2_findWalk_0 6 rfl
theorem dX2_findWalk_11 : decode cX2_findWalk 11 = .ok (.istore_n 2, 1) := decs_at DX2_findWalk_0 7 rfl
theorem dX2_findWalk_12 : decode cX2_findWalk 12 = .ok (.iload_n 2, 1) := decs_at DX2_findWalk_0 8 rfl
theorem dX2_findWalk_13 : decode cX2_findWalk 13 = .ok (.aload_n 0, 1) := decs_at DX2_findWalk_0 9 rfl
theorem dX2_findWalk_14 : decode cX2_findWalk 14 = .ok (.getfield 45, 3) := decs_at DX2_findWalk_0 10 rfl
theorem dX2_findWalk_17 : decode cX2_findWalk 17 = .ok (.if_icmp .ge 79, 3) := decs_at DX2_findWalk_0 11 rfl
theorem dX2_findWalk_20 : decode cX2_findWalk 20 = .ok (.iload_n 2, 1) := decs_at DX2_findWalk_0 12 rfl
theorem dX2_findWalk_21 : decode cX2_findWalk 21 = .ok (.bipush 113, 2) := decs_at DX2_findWalk_0 13 rfl
theorem dX2_findWalk_23 : decode cX2_findWalk 23 = .ok (.if_icmp .ge 73, 3) := decs_at DX2_findWalk_0 14 rfl
theorem dX2_findWalk_26 : decode cX2_findWalk 26 = .ok (.aload_n 0, 1) := decs_at DX2_findWalk_0 15 rfl
theorem dX2_findWalk_27 : decode cX2_findWalk 27 = .ok (.aload_n 0, 1) := decs_at DX2_findWalk_0 16 rfl
theorem dX2_findWalk_28 : decode cX2_findWalk 28 = .ok (.getfield 42, 3) := decs_at DX2_findWalk_0 17 rfl
theorem dX2_findWalk_31 : decode cX2_findWalk 31 = .ok (.iload_n 2, 1) := decs_at DX2_findWalk_0 18 rfl
theorem dX2_findWalk_32 : decode cX2_findWalk 32 = .ok (.iaload, 1) := decs_at DX2_findWalk_0 19 rfl
theorem dX2_findWalk_33 : decode cX2_findWalk 33 = .ok (.invokevirtual 97, 3) := decs_at DX2_findWalk_0 20 rfl
theorem dX2_findWalk_36 : decode cX2_findWalk 36 = .ok (.aload_n 0, 1) := decs_at DX2_findWalk_0 21 rfl
theorem dX2_findWalk_37 : decode cX2_findWalk 37 = .ok (.getfield 21, 3) := decs_at DX2_findWalk_0 22 rfl
theorem dX2_findWalk_40 : decode cX2_findWalk 40 = .ok (.aload_n 0, 1) := decs_at DX2_findWalk_0 23 rfl
theorem DX2_findWalk_24 : decs cX2_findWalk [(41, .getfield 14, 3), (44, .invokevirtual 112, 3), (47, .iconst 0, 1), (48, .istore_n 3, 1), (49, .iload_n 3, 1), (50, .iload_n 1, 1), (51, .if_icmp .ge 24, 3), (54, .aload_n 0, 1), (55, .getfield 21, 3), (58, .aload_n 0, 1), (59, .getfield 14, 3), (62, .aload_n 0, 1), (63, .getfield 73, 3), (66, .invokevirtual 115, 3), (69, .iinc 3 1, 3), (72, .goto (-23), 3), (75, .aload_n 0, 1), (76, .aload_n 0, 1), (77, .getfield 21, 3), (80, .aload_n 0, 1), (81, .getfield 14, 3), (84, .invokevirtual 122, 3), (87, .invokevirtual 132, 3), (90, .iinc 2 1, 3)] := by unfold decs; decide +kernel
theorem dX2_findWalk_41 : decode cX2_findWalk 41 = .ok (.getfield 14, 3) := decs_at DX2_findWalk_24 0 rfl
theorem dX2_findWalk_44 : decode cX2_findWalk 44 = .ok (.invokevirtual 112, 3) := decs_at DX2_findWalk_24 1 rfl
theorem dX2_findWalk_47 : decode cX2_findWalk 47 = .ok (.iconst 0, 1) := decs_at DX2_findWalk_24 2 rfl
theorem dX2_findWalk_48 : decode cX2_findWalk 48 = .ok (.istore_n 3, 1) := decs_at DX2_findWalk_24 3 rfl
theorem dX2_findWalk_49 : decode cX2_findWalk 49 = .ok (.iload_n 3, 1) := decs_at DX2_findWalk_24 4 rfl
theorem dX2_findWalk_50 : decode cX2_findWalk 50 = .ok (.iload_n 1, 1) := decs_at DX2_findWalk_24 5 rfl
theorem dX2_findWalk_51 : decode cX2_findWalk 51 = .ok (.if_icmp .ge 24, 3) := decs_at DX2_findWalk_24 6 rfl
theorem dX2_findWalk_54 : decode cX2_findWalk 54 = .ok (.aload_n 0, 1) := decs_at DX2_findWalk_24 7 rfl
theorem dX2_findWalk_55 : decode cX2_findWalk 55 = .ok (.getfield 21, 3) := decs_at DX2_findWalk_24 8 rfl
theorem dX2_findWalk_58 : decode cX2_findWalk 58 = .ok (.aload_n 0, 1) := decs_at DX2_findWalk_24 9 rfl
theorem dX2_findWalk_59 : decode cX2_findWalk 59 = .ok (.getfield 14, 3) := decs_at DX2_findWalk_24 10 rfl
theorem dX2_findWalk_62 : decode cX2_findWalk 62 = .ok (.aload_n 0, 1) := decs_at DX2_findWalk_24 11 rfl
theorem dX2_findWalk_63 : decode cX2_findWalk 63 = .ok (.getfield 73, 3) := decs_at DX2_findWalk_24 12 rfl
theorem dX2_findWalk_66 : decode cX2_findWalk 66 = .ok (.invokevirtual 115, 3) := decs_at DX2_findWalk_24 13 rfl
theorem dX2_findWalk_69 : decode cX2_findWalk 69 = .ok (.iinc 3 1, 3) := decs_at DX2_findWalk_24 14 rfl
theorem dX2_findWalk_72 : decode cX2_findWalk 72 = .ok (.goto (-23), 3) := decs_at DX2_findWalk_24 15 rfl
theorem dX2_findWalk_75 : decode cX2_findWalk 75 = .ok (.aload_n 0, 1) := decs_at DX2_findWalk_24 16 rfl
theorem dX2_findWalk_76 : decode cX2_findWalk 76 = .ok (.aload_n 0, 1) := decs_at DX2_findWalk_24 17 rfl
theorem dX2_findWalk_77 : decode cX2_findWalk 77 = .ok (.getfield 21, 3) := decs_at DX2_findWalk_24 18 rfl
theorem dX2_findWalk_80 : decode cX2_findWalk 80 = .ok (.aload_n 0, 1) := decs_at DX2_findWalk_24 19 rfl
theorem dX2_findWalk_81 : decode cX2_findWalk 81 = .ok (.getfield 14, 3) := decs_at DX2_findWalk_24 20 rfl
theorem dX2_findWalk_84 : decode cX2_findWalk 84 = .ok (.invokevirtual 122, 3) := decs_at DX2_findWalk_24 21 rfl
theorem dX2_findWalk_87 : decode cX2_findWalk 87 = .ok (.invokevirtual 132, 3) := decs_at DX2_findWalk_24 22 rfl
theorem dX2_findWalk_90 : decode cX2_findWalk 90 = .ok (.iinc 2 1, 3) := decs_at DX2_findWalk_24 23 rfl
theorem DX2_findWalk_48 : decs cX2_findWalk [(93, .goto (-81), 3), (96, .aload_n 0, 1), (97, .iconst 1, 1), (98, .putfield 60, 3), (101, .aload_n 0, 1), (102, .aload_n 0, 1), (103, .invokevirtual 135, 3), (106, .putfield 64, 3), (109, .aload_n 0, 1), (110, .getfield 64, 3), (113, .invokestatic 139, 3), (116, .ireturn, 1)] := by unfold decs; decide +kernel
theorem dX2_findWalk_93 : decode cX2_findWalk 93 = .ok (.goto (-81), 3) := decs_at DX2_findWalk_48 0 rfl
theorem dX2_findWalk_96 : decode cX2_findWalk 96 = .ok (.aload_n 0, 1) := decs_at DX2_findWalk_48 1 rfl
theorem dX2_findWalk_97 : decode cX2_findWalk 97 = .ok (.iconst 1, 1) := decs_at DX2_findWalk_48 2 rfl
theorem dX2_findWalk_98 : decode cX2_findWalk 98 = .ok (.putfield 60, 3) := decs_at DX2_findWalk_48 3 rfl
theorem dX2_findWalk_101 : decode cX2_findWalk 101 = .ok (.aload_n 0, 1) := decs_at DX2_findWalk_48 4 rfl
theorem dX2_findWalk_102 : decode cX2_findWalk 102 = .ok (.aload_n 0, 1) := decs_at DX2_findWalk_48 5 rfl
theorem dX2_findWalk_103 : decode cX2_findWalk 103 = .ok (.invokevirtual 135, 3) := decs_at DX2_findWalk_48 6 rfl
theorem dX2_findWalk_106 : decode cX2_findWalk 106 = .ok (.putfield 64, 3) := decs_at DX2_findWalk_48 7 rfl
theorem dX2_findWalk_109 : decode cX2_findWalk 109 = .ok (.aload_n 0, 1) := decs_at DX2_findWalk_48 8 rfl
theorem dX2_findWalk_110 : decode cX2_findWalk 110 = .ok (.getfield 64, 3) := decs_at DX2_findWalk_48 9 rfl
theorem dX2_findWalk_113 : decode cX2_findWalk 113 = .ok (.invokestatic 139, 3) := decs_at DX2_findWalk_48 10 rfl
theorem dX2_findWalk_116 : decode cX2_findWalk 116 = .ok (.ireturn, 1) := decs_at DX2_findWalk_48 11 rfl
theorem DX2_addHotSet_0 : decs cX2_addHotSet [(0, .iconst 0, 1), (1, .istore_n 2, 1), (2, .iload_n 2, 1), (3, .aload_n 0, 1), (4, .getfield 57, 3), (7, .if_icmp .ge 51, 3), (10, .iload_n 2, 1), (11, .bipush 113, 2), (13, .if_icmp .ge 45, 3), (16, .aload_n 0, 1), (17, .getfield 51, 3), (20, .iload_n 2, 1), (21, .iaload, 1), (22, .iload_n 1, 1), (23, .if_icmp .ne 29, 3), (26, .aload_n 0, 1), (27, .dup, 1), (28, .getfield 67, 3), (31, .aload_n 0, 1), (32, .getfield 54, 3), (35, .iload_n 2, 1), (36, .iaload, 1), (37, .iadd, 1), (38, .putfield 67, 3)] := by unfold decs; decide +kernel
theorem dX2_addHotSet_0 : decode cX2_addHotSet 0 = .ok (.iconst 0, 1) := decs_at DX2_addHotSet_0 0 rfl
theorem dX2_addHotSet_1 : decode cX2_addHotSet 1 = .ok (.istore_n 2, 1) := decs_at DX2_addHotSet_0 1 rfl
theorem dX2_addHotSet_2 : decode cX2_addHotSet 2 = .ok (.iload_n 2, 1) := decs_at DX2_addHotSet_0 2 rfl
theorem dX2_addHotSet_3 : decode cX2_addHotSet 3 = .ok (.aload_n 0, 1) := decs_at DX2_addHotSet_0 3 rfl
theorem dX2_addHotSet_4 : decode cX2_addHotSet 4 = .ok (.getfield 57, 3) := decs_at DX2_addHotSet_0 4 rfl
theorem dX2_addHotSet_7 : decode cX2_addHotSet 7 = .ok (.if_icmp .ge 51, 3) := decs_at DX2_addHotSet_0 5 rfl
theorem dX2_addHotSet_10 : decode cX2_addHotSet 10 = .ok (.iload_n 2, 1) := decs_at DX2_addHotSet_0 6 rfl
theorem dX2_addHotSet_11 : decode cX2_addHotSet 11 = .ok (.bipush 113, 2) := decs_at DX2_addHotSet_0 7 rfl
theorem dX2_addHotSet_13 : decode cX2_addHotSet 13 = .ok (.if_icmp .ge 45, 3) := decs_at DX2_addHotSet_0 8 rfl
theorem dX2_addHotSet_16 : decode cX2_addHotSet 16 = .ok (.aload_n 0, 1) := decs_at DX2_addHotSet_0 9 rfl
theorem dX2_addHotSet_17 : decode cX2_addHotSet 17 = .ok (.getfield 51, 3) := decs_at DX2_addHotSet_0 10 rfl
theorem dX2_addHotSet_20 : decode cX2_addHotSet 20 = .ok (.iload_n 2, 1) := decs_at DX2_addHotSet_0 11 rfl
theorem dX2_addHotSet_21 : decode cX2_addHotSet 21 = .ok (.iaload, 1) := decs_at DX2_addHotSet_0 12 rfl
theorem dX2_addHotSet_22 : decode cX2_addHotSet 22 = .ok (.iload_n 1, 1) := decs_at DX2_addHotSet_0 13 rfl
theorem dX2_addHotSet_23 : decode cX2_addHotSet 23 = .ok (.if_icmp .ne 29, 3) := decs_at DX2_addHotSet_0 14 rfl
theorem dX2_addHotSet_26 : decode cX2_addHotSet 26 = .ok (.aload_n 0, 1) := decs_at DX2_addHotSet_0 15 rfl
theorem dX2_addHotSet_27 : decode cX2_addHotSet 27 = .ok (.dup, 1) := decs_at DX2_addHotSet_0 16 rfl
theorem dX2_addHotSet_28 : decode cX2_addHotSet 28 = .ok (.getfield 67, 3) := decs_at DX2_addHotSet_0 17 rfl
theorem dX2_addHotSet_31 : decode cX2_addHotSet 31 = .ok (.aload_n 0, 1) := decs_at DX2_addHotSet_0 18 rfl
theorem dX2_addHotSet_32 : decode cX2_addHotSet 32 = .ok (.getfield 54, 3) := decs_at DX2_addHotSet_0 19 rfl
theorem dX2_addHotSet_35 : decode cX2_addHotSet 35 = .ok (.iload_n 2, 1) := decs_at DX2_addHotSet_0 20 rfl
theorem dX2_addHotSet_36 : decode cX2_addHotSet 36 = .ok (.iaload, 1) := decs_at DX2_addHotSet_0 21 rfl
theorem dX2_addHotSet_37 : decode cX2_addHotSet 37 = .ok (.iadd, 1) := decs_at DX2_addHotSet_0 22 rfl
theorem dX2_addHotSet_38 : decode cX2_addHotSet 38 = .ok (.putfield 67, 3) := decs_at DX2_addHotSet_0 23 rfl
theorem DX2_addHotSet_24 : decs cX2_addHotSet [(41, .aload_n 0, 1), (42, .getfield 54, 3), (45, .iload_n 2, 1), (46, .dup2, 1), (47, .iaload, 1), (48, .iconst 1, 1), (49, .iadd, 1), (50, .iastore, 1), (51, .return_, 1), (52, .iinc 2 1, 3), (55, .goto (-53), 3), (58, .aload_n 0, 1), (59, .getfield 57, 3), (62, .bipush 113, 2), (64, .if_icmp .ge 33, 3), (67, .aload_n 0, 1), (68, .getfield 51, 3), (71, .aload_n 0, 1), (72, .getfield 57, 3), (75, .iload_n 1, 1), (76, .iastore, 1), (77, .aload_n 0, 1), (78, .getfield 54, 3), (81, .aload_n 0, 1)] := by unfold decs; decide +kernel
theorem dX2_addHotSet_41 : decode cX2_addHotSet 41 = .ok (.aload_n 0, 1) := decs_at DX2_addHotSet_24 0 rfl
theorem dX2_addHotSet_42 : decode cX2_addHotSet 42 = .ok (.getfield 54, 3) := decs_at DX2_addHotSet_24 1 rfl
theorem dX2_addHotSet_45 : decode cX2_addHotSet 45 = .ok (.iload_n 2, 1) := decs_at DX2_addHotSet_24 2 rfl
theorem dX2_addHotSet_46 : decode cX2_addHotSet 46 = .ok (.dup2, 1) := decs_at DX2_addHotSet_24 3 rfl
theorem dX2_addHotSet_47 : decode cX2_addHotSet 47 = .ok (.iaload, 1) := decs_at DX2_addHotSet_24 4 rfl
theorem dX2_addHotSet_48 : decode cX2_addHotSet 48 = .ok (.iconst 1, 1) := decs_at DX2_addHotSet_24 5 rfl
theorem dX2_addHotSet_49 : decode cX2_addHotSet 49 = .ok (.iadd, 1) := decs_at DX2_addHotSet_24 6 rfl
theorem dX2_addHotSet_50 : decode cX2_addHotSet 50 = .ok (.iastore, 1) := decs_at DX2_addHotSet_24 7 rfl
theorem dX2_addHotSet_51 : decode cX2_addHotSet 51 = .ok (.return_, 1) := decs_at DX2_addHotSet_24 8 rfl
theorem dX2_addHotSet_52 : decode cX2_addHotSet 52 = .ok (.iinc 2 1, 3) := decs_at DX2_addHotSet_24 9 rfl
theorem dX2_addHotSet_55 : decode cX2_addHotSet 55 = .ok (.goto (-53), 3) := decs_at DX2_addHotSet_24 10 rfl
theorem dX2_addHotSet_58 : decode cX2_addHotSet 58 = .ok (.aload_n 0, 1) := decs_at DX2_addHotSet_24 11 rfl
theorem dX2_addHotSet_59 : decode cX2_addHotSet 59 = .ok (.getfield 57, 3) := decs_at DX2_addHotSet_24 12 rfl
theorem dX2_addHotSet_62 : decode cX2_addHotSet 62 = .ok (.bipush 113, 2) := decs_at DX2_addHotSet_24 13 rfl
theorem dX2_addHotSet_64 : decode cX2_addHotSet 64 = .ok (.if_icmp .ge 33, 3) := decs_at DX2_addHotSet_24 14 rfl
theorem dX2_addHotSet_67 : decode cX2_addHotSet 67 = .ok (.aload_n 0, 1) := decs_at DX2_addHotSet_24 15 rfl
theorem dX2_addHotSet_68 : decode cX2_addHotSet 68 = .ok (.getfield 51, 3) := decs_at DX2_addHotSet_24 16 rfl
theorem dX2_addHotSet_71 : decode cX2_addHotSet 71 = .ok (.aload_n 0, 1) := decs_at DX2_addHotSet_24 17 rfl
theorem dX2_addHotSet_72 : decode cX2_addHotSet 72 = .ok (.getfield 57, 3) := decs_at DX2_addHotSet_24 18 rfl
theorem dX2_addHotSet_75 : decode cX2_addHotSet 75 = .ok (.iload_n 1, 1) := decs_at DX2_addHotSet_24 19 rfl
theorem dX2_addHotSet_76 : decode cX2_addHotSet 76 = .ok (.iastore, 1) := decs_at DX2_addHotSet_24 20 rfl
theorem dX2_addHotSet_77 : decode cX2_addHotSet 77 = .ok (.aload_n 0, 1) := decs_at DX2_addHotSet_24 21 rfl
theorem dX2_addHotSet_78 : decode cX2_addHotSet 78 = .ok (.getfield 54, 3) := decs_at DX2_addHotSet_24 22 rfl
theorem dX2_addHotSet_81 : decode cX2_addHotSet 81 = .ok (.aload_n 0, 1) := decs_at DX2_addHotSet_24 23 rfl
theorem DX2_addHotSet_48 : decs cX2_addHotSet [(82, .getfield 57, 3), (85, .iconst 1, 1), (86, .iastore, 1), (87, .aload_n 0, 1), (88, .dup, 1), (89, .getfield 57, 3), (92, .iconst 1, 1), (93, .iadd, 1), (94, .putfield 57, 3), (97, .return_, 1)] := by unfold decs; decide +kernel
theorem dX2_addHotSet_82 : decode cX2_addHotSet 82 = .ok (.getfield 57, 3) := decs_at DX2_addHotSet_48 0 rfl
theorem dX2_addHotSet_85 : decode cX2_addHotSet 85 = .ok (.iconst 1, 1) := decs_at DX2_addHotSet_48 1 rfl
theorem dX2_addHotSet_86 : decode cX2_addHotSet 86 = .ok (.iastore, 1) := decs_at DX2_addHotSet_48 2 rfl
theorem dX2_addHotSet_87 : decode cX2_addHotSet 87 = .ok (.aload_n 0, 1) := decs_at DX2_addHotSet_48 3 rfl
theorem dX2_addHotSet_88 : decode cX2_addHotSet 88 = .ok (.dup, 1) := decs_at DX2_addHotSet_48 4 rfl
theorem dX2_addHotSet_89 : decode cX2_addHotSet 89 = .ok (.getfield 57, 3) := decs_at DX2_addHotSet_48 5 rfl
theorem dX2_addHotSet_92 : decode cX2_addHotSet 92 = .ok (.iconst 1, 1) := decs_at DX2_addHotSet_48 6 rfl
theorem dX2_addHotSet_93 : decode cX2_addHotSet 93 = .ok (.iadd, 1) := decs_at DX2_addHotSet_48 7 rfl
theorem dX2_addHotSet_94 : decode cX2_addHotSet 94 = .ok (.putfield 57, 3) := decs_at DX2_addHotSet_48 8 rfl
theorem dX2_addHotSet_97 : decode cX2_addHotSet 97 = .ok (.return_, 1) := decs_at DX2_addHotSet_48 9 rfl
theorem DX2_leastWalk_0 : decs cX2_leastWalk [(0, .aload_n 0, 1), (1, .invokevirtual 144, 3), (4, .istore_n 1, 1), (5, .iload_n 1, 1), (6, .istore_n 2, 1), (7, .iconst 0, 1), (8, .istore_n 3, 1), (9, .iload_n 3, 1), (10, .iload_n 1, 1), (11, .if_icmp .ge 50, 3), (14, .iload_n 3, 1), (15, .invokestatic 139, 3), (18, .iload_n 2, 1), (19, .invokestatic 139, 3), (22, .if_icmp .ge 7, 3), (25, .iconst 1, 1), (26, .goto 4, 3), (29, .iconst 0, 1), (30, .istore 4, 2), (32, .iload 4, 2), (34, .ifCond .eq 21, 3), (37, .iload_n 3, 1), (38, .iload_n 1, 1), (39, .iconst (-1), 1)] := by unfold decs; decide +kernel
theorem dX2_leastWalk_0 : decode cX2_leastWalk 0 = .ok (.aload_n 0, 1) := decs_at DX2_leastWalk_0 0 rfl
theorem dX2_leastWalk_1 : decode cX2_leastWalk 1 = .ok (.invokevirtual 144, 3) := decs_at DX2_leastWalk_0 1 rfl
theorem dX2_leastWalk_4 : decode cX2_leastWalk 4 = .ok (.istore_n 1, 1) := decs_at DX2_leastWalk_0 2 rfl
theorem dX2_leastWalk_5 : decode cX2_leastWalk 5 = .ok (.iload_n 1, 1) := decs_at DX2_leastWalk_0 3 rfl
theorem dX2_leastWalk_6 : decode cX2_leastWalk 6 = .ok (.istore_n 2, 1) := decs_at DX2_leastWalk_0 4 rfl
theorem dX2_leastWalk_7 : decode cX2_leastWalk 7 = .ok (.iconst 0, 1) := decs_at DX2_leastWalk_0 5 rfl
theorem dX2_leastWalk_8 : decode cX2_leastWalk 8 = .ok (.istore_n 3, 1) := decs_at DX2_leastWalk_0 6 rfl
theorem dX2_leastWalk_9 : decode cX2_leastWalk 9 = .ok (.iload_n 3, 1) := decs_at DX2_leastWalk_0 7 rfl
theorem dX2_leastWalk_10 : decode cX2_leastWalk 10 = .ok (.iload_n 1, 1) := decs_at DX2_leastWalk_0 8 rfl
theorem dX2_leastWalk_11 : decode cX2_leastWalk 11 = .ok (.if_icmp .ge 50, 3) := decs_at DX2_leastWalk_0 9 rfl
theorem dX2_leastWalk_14 : decode cX2_leastWalk 14 = .ok (.iload_n 3, 1) := decs_at DX2_leastWalk_0 10 rfl
theorem dX2_leastWalk_15 : decode cX2_leastWalk 15 = .ok (.invokestatic 139, 3) := decs_at DX2_leastWalk_0 11 rfl
theorem dX2_leastWalk_18 : decode cX2_leastWalk 18 = .ok (.iload_n 2, 1) := decs_at DX2_leastWalk_0 12 rfl
theorem dX2_leastWalk_19 : decode cX2_leastWalk 19 = .ok (.invokestatic 139, 3) := decs_at DX2_leastWalk_0 13 rfl
theorem dX2_leastWalk_22 : decode cX2_leastWalk 22 = .ok (.if_icmp .ge 7, 3) := decs_at DX2_leastWalk_0 14 rfl
theorem dX2_leastWalk_25 : decode cX2_leastWalk 25 = .ok (.iconst 1, 1) := decs_at DX2_leastWalk_0 15 rfl
theorem dX2_leastWalk_26 : decode cX2_leastWalk 26 = .ok (.goto 4, 3) := decs_at DX2_leastWalk_0 16 rfl
theorem dX2_leastWalk_29 : decode cX2_leastWalk 29 = .ok (.iconst 0, 1) := decs_at DX2_leastWalk_0 17 rfl
theorem dX2_leastWalk_30 : decode cX2_leastWalk 30 = .ok (.istore 4, 2) := decs_at DX2_leastWalk_0 18 rfl
theorem dX2_leastWalk_32 : decode cX2_leastWalk 32 = .ok (.iload 4, 2) := decs_at DX2_leastWalk_0 19 rfl
theorem dX2_leastWalk_34 : decode cX2_leastWalk 34 = .ok (.ifCond .eq 21, 3) := decs_at DX2_leastWalk_0 20 rfl
theorem dX2_leastWalk_37 : decode cX2_leastWalk 37 = .ok (.iload_n 3, 1) := decs_at DX2_leastWalk_0 21 rfl
theorem dX2_leastWalk_38 : decode cX2_leastWalk 38 = .ok (.iload_n 1, 1) := decs_at DX2_leastWalk_0 22 rfl
theorem dX2_leastWalk_39 : decode cX2_leastWalk 39 = .ok (.iconst (-1), 1) := decs_at DX2_leastWalk_0 23 rfl
theorem DX2_leastWalk_24 : decs cX2_leastWalk [(40, .ixor, 1), (41, .iand, 1), (42, .ifCond .ne 13, 3), (45, .aload_n 0, 1), (46, .iload_n 3, 1), (47, .invokevirtual 147, 3), (50, .ifCond .eq 5, 3), (53, .iload_n 3, 1), (54, .istore_n 2, 1), (55, .iinc 3 1, 3), (58, .goto (-49), 3), (61, .iload_n 2, 1), (62, .ireturn, 1)] := by unfold decs; decide +kernel
theorem dX2_leastWalk_40 : decode cX2_leastWalk 40 = .ok (.ixor, 1) := decs_at DX2_leastWalk_24 0 rfl
theorem dX2_leastWalk_41 : decode cX2_leastWalk 41 = .ok (.iand, 1) := decs_at DX2_leastWalk_24 1 rfl
theorem dX2_leastWalk_42 : decode cX2_leastWalk 42 = .ok (.ifCond .ne 13, 3) := decs_at DX2_leastWalk_24 2 rfl
theorem dX2_leastWalk_45 : decode cX2_leastWalk 45 = .ok (.aload_n 0, 1) := decs_at DX2_leastWalk_24 3 rfl
theorem dX2_leastWalk_46 : decode cX2_leastWalk 46 = .ok (.iload_n 3, 1) := decs_at DX2_leastWalk_24 4 rfl
theorem dX2_leastWalk_47 : decode cX2_leastWalk 47 = .ok (.invokevirtual 147, 3) := decs_at DX2_leastWalk_24 5 rfl
theorem dX2_leastWalk_50 : decode cX2_leastWalk 50 = .ok (.ifCond .eq 5, 3) := decs_at DX2_leastWalk_24 6 rfl
theorem dX2_leastWalk_53 : decode cX2_leastWalk 53 = .ok (.iload_n 3, 1) := decs_at DX2_leastWalk_24 7 rfl
theorem dX2_leastWalk_54 : decode cX2_leastWalk 54 = .ok (.istore_n 2, 1) := decs_at DX2_leastWalk_24 8 rfl
theorem dX2_leastWalk_55 : decode cX2_leastWalk 55 = .ok (.iinc 3 1, 3) := decs_at DX2_leastWalk_24 9 rfl
theorem dX2_leastWalk_58 : decode cX2_leastWalk 58 = .ok (.goto (-49), 3) := decs_at DX2_leastWalk_24 10 rfl
theorem dX2_leastWalk_61 : decode cX2_leastWalk 61 = .ok (.iload_n 2, 1) := decs_at DX2_leastWalk_24 11 rfl
theorem dX2_leastWalk_62 : decode cX2_leastWalk 62 = .ok (.ireturn, 1) := decs_at DX2_leastWalk_24 12 rfl
theorem DX2_usefulCars_0 : decs cX2_usefulCars [(0, .iconst 0, 1), (1, .istore_n 1, 1), (2, .iconst 1, 1), (3, .istore_n 2, 1), (4, .iload_n 2, 1), (5, .aload_n 0, 1), (6, .getfield 57, 3), (9, .if_icmp .ge 31, 3), (12, .iload_n 2, 1), (13, .bipush 113, 2), (15, .if_icmp .ge 25, 3), (18, .iload_n 1, 1), (19, .aload_n 0, 1), (20, .getfield 51, 3), (23, .iload_n 2, 1), (24, .iaload, 1), (25, .aload_n 0, 1), (26, .getfield 51, 3), (29, .iconst 0, 1), (30, .iaload, 1), (31, .ixor, 1), (32, .ior, 1), (33, .istore_n 1, 1), (34, .iinc 2 1, 3)] := by unfold decs; decide +kernel
theorem dX2_usefulCars_0 : decode cX2_usefulCars 0 = .ok (.iconst 0, 1) := decs_at DX2_usefulCars_0 0 rfl
theorem dX2_usefulCars_1 : decode cX2_usefulCars 1 = .ok (.istore_n 1, 1) := decs_at DX2_usefulCars_0 1 rfl
theorem dX2_usefulCars_2 : decode cX2_usefulCars 2 = .ok (.iconst 1, 1) := decs_at DX2_usefulCars_0 2 rfl
theorem dX2_usefulCars_3 : decode cX2_usefulCars 3 = .ok (.istore_n 2, 1) := decs_at DX2_usefulCars_0 3 rfl
theorem dX2_usefulCars_4 : decode cX2_usefulCars 4 = .ok (.iload_n 2, 1) := decs_at DX2_usefulCars_0 4 rfl
theorem dX2_usefulCars_5 : decode cX2_usefulCars 5 = .ok (.aload_n 0, 1) := decs_at DX2_usefulCars_0 5 rfl
theorem dX2_usefulCars_6 : decode cX2_usefulCars 6 = .ok (.getfield 57, 3) := decs_at DX2_usefulCars_0 6 rfl
theorem dX2_usefulCars_9 : decode cX2_usefulCars 9 = .ok (.if_icmp .ge 31, 3) := decs_at DX2_usefulCars_0 7 rfl
theorem dX2_usefulCars_12 : decode cX2_usefulCars 12 = .ok (.iload_n 2, 1) := decs_at DX2_usefulCars_0 8 rfl
theorem dX2_usefulCars_13 : decode cX2_usefulCars 13 = .ok (.bipush 113, 2) := decs_at DX2_usefulCars_0 9 rfl
theorem dX2_usefulCars_15 : decode cX2_usefulCars 15 = .ok (.if_icmp .ge 25, 3) := decs_at DX2_usefulCars_0 10 rfl
theorem dX2_usefulCars_18 : decode cX2_usefulCars 18 = .ok (.iload_n 1, 1) := decs_at DX2_usefulCars_0 11 rfl
theorem dX2_usefulCars_19 : decode cX2_usefulCars 19 = .ok (.aload_n 0, 1) := decs_at DX2_usefulCars_0 12 rfl
theorem dX2_usefulCars_20 : decode cX2_usefulCars 20 = .ok (.getfield 51, 3) := decs_at DX2_usefulCars_0 13 rfl
theorem dX2_usefulCars_23 : decode cX2_usefulCars 23 = .ok (.iload_n 2, 1) := decs_at DX2_usefulCars_0 14 rfl
theorem dX2_usefulCars_24 : decode cX2_usefulCars 24 = .ok (.iaload, 1) := decs_at DX2_usefulCars_0 15 rfl
theorem dX2_usefulCars_25 : decode cX2_usefulCars 25 = .ok (.aload_n 0, 1) := decs_at DX2_usefulCars_0 16 rfl
theorem dX2_usefulCars_26 : decode cX2_usefulCars 26 = .ok (.getfield 51, 3) := decs_at DX2_usefulCars_0 17 rfl
theorem dX2_usefulCars_29 : decode cX2_usefulCars 29 = .ok (.iconst 0, 1) := decs_at DX2_usefulCars_0 18 rfl
theorem dX2_usefulCars_30 : decode cX2_usefulCars 30 = .ok (.iaload, 1) := decs_at DX2_usefulCars_0 19 rfl
theorem dX2_usefulCars_31 : decode cX2_usefulCars 31 = .ok (.ixor, 1) := decs_at DX2_usefulCars_0 20 rfl
theorem dX2_usefulCars_32 : decode cX2_usefulCars 32 = .ok (.ior, 1) := decs_at DX2_usefulCars_0 21 rfl
theorem dX2_usefulCars_33 : decode cX2_usefulCars 33 = .ok (.istore_n 1, 1) := decs_at DX2_usefulCars_0 22 rfl
theorem dX2_usefulCars_34 : decode cX2_usefulCars 34 = .ok (.iinc 2 1, 3) := decs_at DX2_usefulCars_0 23 rfl
theorem DX2_usefulCars_24 : decs cX2_usefulCars [(37, .goto (-33), 3), (40, .iload_n 1, 1), (41, .ireturn, 1)] := by unfold decs; decide +kernel
theorem dX2_usefulCars_37 : decode cX2_usefulCars 37 = .ok (.goto (-33), 3) := decs_at DX2_usefulCars_24 0 rfl
theorem dX2_usefulCars_40 : decode cX2_usefulCars 40 = .ok (.iload_n 1, 1) := decs_at DX2_usefulCars_24 1 rfl
theorem dX2_usefulCars_41 : decode cX2_usefulCars 41 = .ok (.ireturn, 1) := decs_at DX2_usefulCars_24 2 rfl
theorem DX2_partsAll_0 : decs cX2_partsAll [(0, .iconst 0, 1), (1, .istore_n 2, 1), (2, .iload_n 2, 1), (3, .aload_n 0, 1), (4, .getfield 57, 3), (7, .if_icmp .ge 48, 3), (10, .iload_n 2, 1), (11, .bipush 113, 2), (13, .if_icmp .ge 42, 3), (16, .iconst 0, 1), (17, .istore_n 3, 1), (18, .iload_n 3, 1), (19, .iload_n 2, 1), (20, .if_icmp .ge 29, 3), (23, .aload_n 0, 1), (24, .getfield 51, 3), (27, .iload_n 2, 1), (28, .iaload, 1), (29, .aload_n 0, 1), (30, .getfield 51, 3), (33, .iload_n 3, 1), (34, .iaload, 1), (35, .ixor, 1), (36, .iload_n 1, 1)] := by unfold decs; decide +kernel
theorem dX2_partsAll_0 : decode cX2_partsAll 0 = .ok (.iconst 0, 1) := decs_at DX2_partsAll_0 0 rfl
theorem dX2_partsAll_1 : decode cX2_partsAll 1 = .ok (.istore_n 2, 1) := decs_at DX2_partsAll_0 1 rfl
theorem dX2_partsAll_2 : decode cX2_partsAll 2 = .ok (.iload_n 2, 1) := decs_at DX2_partsAll_0 2 rfl
theorem dX2_partsAll_3 : decode cX2_partsAll 3 = .ok (.aload_n 0, 1) := decs_at DX2_partsAll_0 3 rfl
theorem dX2_partsAll_4 : decode cX2_partsAll 4 = .ok (.getfield 57, 3) := decs_at DX2_partsAll_0 4 rfl
theorem dX2_partsAll_7 : decode cX2_partsAll 7 = .ok (.if_icmp .ge 48, 3) := decs_at DX2_partsAll_0 5 rfl
theorem dX2_partsAll_10 : decode cX2_partsAll 10 = .ok (.iload_n 2, 1) := decs_at DX2_partsAll_0 6 rfl
theorem dX2_partsAll_11 : decode cX2_partsAll 11 = .ok (.bipush 113, 2) := decs_at DX2_partsAll_0 7 rfl
theorem dX2_partsAll_13 : decode cX2_partsAll 13 = .ok (.if_icmp .ge 42, 3) := decs_at DX2_partsAll_0 8 rfl
theorem dX2_partsAll_16 : decode cX2_partsAll 16 = .ok (.iconst 0, 1) := decs_at DX2_partsAll_0 9 rfl
theorem dX2_partsAll_17 : decode cX2_partsAll 17 = .ok (.istore_n 3, 1) := decs_at DX2_partsAll_0 10 rfl
theorem dX2_partsAll_18 : decode cX2_partsAll 18 = .ok (.iload_n 3, 1) := decs_at DX2_partsAll_0 11 rfl
theorem dX2_partsAll_19 : decode cX2_partsAll 19 = .ok (.iload_n 2, 1) := decs_at DX2_partsAll_0 12 rfl
theorem dX2_partsAll_20 : decode cX2_partsAll 20 = .ok (.if_icmp .ge 29, 3) := decs_at DX2_partsAll_0 13 rfl
theorem dX2_partsAll_23 : decode cX2_partsAll 23 = .ok (.aload_n 0, 1) := decs_at DX2_partsAll_0 14 rfl
theorem dX2_partsAll_24 : decode cX2_partsAll 24 = .ok (.getfield 51, 3) := decs_at DX2_partsAll_0 15 rfl
theorem dX2_partsAll_27 : decode cX2_partsAll 27 = .ok (.iload_n 2, 1) := decs_at DX2_partsAll_0 16 rfl
theorem dX2_partsAll_28 : decode cX2_partsAll 28 = .ok (.iaload, 1) := decs_at DX2_partsAll_0 17 rfl
theorem dX2_partsAll_29 : decode cX2_partsAll 29 = .ok (.aload_n 0, 1) := decs_at DX2_partsAll_0 18 rfl
theorem dX2_partsAll_30 : decode cX2_partsAll 30 = .ok (.getfield 51, 3) := decs_at DX2_partsAll_0 19 rfl
theorem dX2_partsAll_33 : decode cX2_partsAll 33 = .ok (.iload_n 3, 1) := decs_at DX2_partsAll_0 20 rfl
theorem dX2_partsAll_34 : decode cX2_partsAll 34 = .ok (.iaload, 1) := decs_at DX2_partsAll_0 21 rfl
theorem dX2_partsAll_35 : decode cX2_partsAll 35 = .ok (.ixor, 1) := decs_at DX2_partsAll_0 22 rfl
theorem dX2_partsAll_36 : decode cX2_partsAll 36 = .ok (.iload_n 1, 1) := decs_at DX2_partsAll_0 23 rfl
theorem DX2_partsAll_24 : decs cX2_partsAll [(37, .iand, 1), (38, .ifCond .ne 5, 3), (41, .iconst 0, 1), (42, .ireturn, 1), (43, .iinc 3 1, 3), (46, .goto (-28), 3), (49, .iinc 2 1, 3), (52, .goto (-50), 3), (55, .iconst 1, 1), (56, .ireturn, 1)] := by unfold decs; decide +kernel
theorem dX2_partsAll_37 : decode cX2_partsAll 37 = .ok (.iand, 1) := decs_at DX2_partsAll_24 0 rfl
theorem dX2_partsAll_38 : decode cX2_partsAll 38 = .ok (.ifCond .ne 5, 3) := decs_at DX2_partsAll_24 1 rfl
theorem dX2_partsAll_41 : decode cX2_partsAll 41 = .ok (.iconst 0, 1) := decs_at DX2_partsAll_24 2 rfl
theorem dX2_partsAll_42 : decode cX2_partsAll 42 = .ok (.ireturn, 1) := decs_at DX2_partsAll_24 3 rfl
theorem dX2_partsAll_43 : decode cX2_partsAll 43 = .ok (.iinc 3 1, 3) := decs_at DX2_partsAll_24 4 rfl
theorem dX2_partsAll_46 : decode cX2_partsAll 46 = .ok (.goto (-28), 3) := decs_at DX2_partsAll_24 5 rfl
theorem dX2_partsAll_49 : decode cX2_partsAll 49 = .ok (.iinc 2 1, 3) := decs_at DX2_partsAll_24 6 rfl
theorem dX2_partsAll_52 : decode cX2_partsAll 52 = .ok (.goto (-50), 3) := decs_at DX2_partsAll_24 7 rfl
theorem dX2_partsAll_55 : decode cX2_partsAll 55 = .ok (.iconst 1, 1) := decs_at DX2_partsAll_24 8 rfl
theorem dX2_partsAll_56 : decode cX2_partsAll 56 = .ok (.ireturn, 1) := decs_at DX2_partsAll_24 9 rfl
theorem DX8_open_0 : decs cX8_open [(0, .aload_n 0, 1), (1, .iload_n 1, 1), (2, .aload_n 0, 1), (3, .getfield 33, 3), (6, .getfield 37, 3), (9, .invokestatic 42, 3), (12, .putfield 9, 3), (15, .aload_n 0, 1), (16, .iconst 0, 1), (17, .putfield 21, 3), (20, .aload_n 0, 1), (21, .iconst 0, 1), (22, .putfield 27, 3), (25, .aload_n 0, 1), (26, .iconst 0, 1), (27, .putfield 30, 3), (30, .aload_n 0, 1), (31, .invokevirtual 48, 3), (34, .return_, 1)] := by unfold decs; decide +kernel
theorem dX8_open_0 : decode cX8_open 0 = .ok (.aload_n 0, 1) := decs_at DX8_open_0 0 rfl
theorem dX8_open_1 : decode cX8_open 1 = .ok (.iload_n 1, 1) := decs_at DX8_open_0 1 rfl
theorem dX8_open_2 : decode cX8_open 2 = .ok (.aload_n 0, 1) := decs_at DX8_open_0 2 rfl
theorem dX8_open_3 : decode cX8_open 3 = .ok (.getfield 33, 3) := decs_at DX8_open_0 3 rfl
theorem dX8_open_6 : decode cX8_open 6 = .ok (.getfield 37, 3) := decs_at DX8_open_0 4 rfl
theorem dX8_open_9 : decode cX8_open 9 = .ok (.invokestatic 42, 3) := decs_at DX8_open_0 5 rfl
theorem dX8_open_12 : decode cX8_open 12 = .ok (.putfield 9, 3) := decs_at DX8_open_0 6 rfl
theorem dX8_open_15 : decode cX8_open 15 = .ok (.aload_n 0, 1) := decs_at DX8_open_0 7 rfl
theorem dX8_open_16 : decode cX8_open 16 = .ok (.iconst 0, 1) := decs_at DX8_open_0 8 rfl
theorem dX8_open_17 : decode cX8_open 17 = .ok (.putfield 21, 3) := decs_at DX8_open_0 9 rfl
theorem dX8_open_20 : decode cX8_open 20 = .ok (.aload_n 0, 1) := decs_at DX8_open_0 10 rfl
theorem dX8_open_21 : decode cX8_open 21 = .ok (.iconst 0, 1) := decs_at DX8_open_0 11 rfl
theorem dX8_open_22 : decode cX8_open 22 = .ok (.putfield 27, 3) := decs_at DX8_open_0 12 rfl
theorem dX8_open_25 : decode cX8_open 25 = .ok (.aload_n 0, 1) := decs_at DX8_open_0 13 rfl
theorem dX8_open_26 : decode cX8_open 26 = .ok (.iconst 0, 1) := decs_at DX8_open_0 14 rfl
theorem dX8_open_27 : decode cX8_open 27 = .ok (.putfield 30, 3) := decs_at DX8_open_0 15 rfl
theorem dX8_open_30 : decode cX8_open 30 = .ok (.aload_n 0, 1) := decs_at DX8_open_0 16 rfl
theorem dX8_open_31 : decode cX8_open 31 = .ok (.invokevirtual 48, 3) := decs_at DX8_open_0 17 rfl
theorem dX8_open_34 : decode cX8_open 34 = .ok (.return_, 1) := decs_at DX8_open_0 18 rfl
theorem DX8_atEnd_0 : decs cX8_atEnd [(0, .aload_n 0, 1), (1, .getfield 15, 3), (4, .ifCond .ne 7, 3), (7, .iconst 1, 1), (8, .goto 4, 3), (11, .iconst 0, 1), (12, .ireturn, 1)] := by unfold decs; decide +kernel
theorem dX8_atEnd_0 : decode cX8_atEnd 0 = .ok (.aload_n 0, 1) := decs_at DX8_atEnd_0 0 rfl
theorem dX8_atEnd_1 : decode cX8_atEnd 1 = .ok (.getfield 15, 3) := decs_at DX8_atEnd_0 1 rfl
theorem dX8_atEnd_4 : decode cX8_atEnd 4 = .ok (.ifCond .ne 7, 3) := decs_at DX8_atEnd_0 2 rfl
theorem dX8_atEnd_7 : decode cX8_atEnd 7 = .ok (.iconst 1, 1) := decs_at DX8_atEnd_0 3 rfl
theorem dX8_atEnd_8 : decode cX8_atEnd 8 = .ok (.goto 4, 3) := decs_at DX8_atEnd_0 4 rfl
theorem dX8_atEnd_11 : decode cX8_atEnd 11 = .ok (.iconst 0, 1) := decs_at DX8_atEnd_0 5 rfl
theorem dX8_atEnd_12 : decode cX8_atEnd 12 = .ok (.ireturn, 1) := decs_at DX8_atEnd_0 6 rfl
theorem DX8_tooLong_0 : decs cX8_tooLong [(0, .aload_n 0, 1), (1, .getfield 33, 3), (4, .getfield 37, 3), (7, .aload_n 0, 1), (8, .getfield 9, 3), (11, .if_icmp .le 7, 3), (14, .iconst 1, 1), (15, .goto 4, 3), (18, .iconst 0, 1), (19, .ireturn, 1)] := by unfold decs; decide +kernel
theorem dX8_tooLong_0 : decode cX8_tooLong 0 = .ok (.aload_n 0, 1) := decs_at DX8_tooLong_0 0 rfl
theorem dX8_tooLong_1 : decode cX8_tooLong 1 = .ok (.getfield 33, 3) := decs_at DX8_tooLong_0 1 rfl
theorem dX8_tooLong_4 : decode cX8_tooLong 4 = .ok (.getfield 37, 3) := decs_at DX8_tooLong_0 2 rfl
theorem dX8_tooLong_7 : decode cX8_tooLong 7 = .ok (.aload_n 0, 1) := decs_at DX8_tooLong_0 3 rfl
theorem dX8_tooLong_8 : decode cX8_tooLong 8 = .ok (.getfield 9, 3) := decs_at DX8_tooLong_0 4 rfl
theorem dX8_tooLong_11 : decode cX8_tooLong 11 = .ok (.if_icmp .le 7, 3) := decs_at DX8_tooLong_0 5 rfl
theorem dX8_tooLong_14 : decode cX8_tooLong 14 = .ok (.iconst 1, 1) := decs_at DX8_tooLong_0 6 rfl
theorem dX8_tooLong_15 : decode cX8_tooLong 15 = .ok (.goto 4, 3) := decs_at DX8_tooLong_0 7 rfl
theorem dX8_tooLong_18 : decode cX8_tooLong 18 = .ok (.iconst 0, 1) := decs_at DX8_tooLong_0 8 rfl
theorem dX8_tooLong_19 : decode cX8_tooLong 19 = .ok (.ireturn, 1) := decs_at DX8_tooLong_0 9 rfl
theorem DX8_read_0 : decs cX8_read [(0, .aload_n 0, 1), (1, .aload_n 0, 1), (2, .getfield 21, 3), (5, .putfield 18, 3), (8, .aload_n 0, 1), (9, .getfield 18, 3), (12, .aload_n 0, 1), (13, .getfield 9, 3), (16, .if_icmp .ge 48, 3), (19, .aload_n 0, 1), (20, .getfield 33, 3), (23, .aload_n 0, 1), (24, .getfield 18, 3), (27, .invokevirtual 51, 3), (30, .bipush 32, 2), (32, .if_icmp .eq 19, 3), (35, .aload_n 0, 1), (36, .getfield 33, 3), (39, .aload_n 0, 1), (40, .getfield 18, 3), (43, .invokevirtual 51, 3), (46, .bipush 10, 2), (48, .if_icmp .ne 16, 3), (51, .aload_n 0, 1)] := by unfold decs; decide +kernel
theorem dX8_read_0 : decode cX8_read 0 = .ok (.aload_n 0, 1) := decs_at DX8_read_0 0 rfl
theorem dX8_read_1 : decode cX8_read 1 = .ok (.aload_n 0, 1) := decs_at DX8_read_0 1 rfl
theorem dX8_read_2 : decode cX8_read 2 = .ok (.getfield 21, 3) := decs_at DX8_read_0 2 rfl
theorem dX8_read_5 : decode cX8_read 5 = .ok (.putfield 18, 3) := decs_at DX8_read_0 3 rfl
theorem dX8_read_8 : decode cX8_read 8 = .ok (.aload_n 0, 1) := decs_at DX8_read_0 4 rfl
theorem dX8_read_9 : decode cX8_read 9 = .ok (.getfield 18, 3) := decs_at DX8_read_0 5 rfl
theorem dX8_read_12 : decode cX8_read 12 = .ok (.aload_n 0, 1) := decs_at DX8_read_0 6 rfl
theorem dX8_read_13 : decode cX8_read 13 = .ok (.getfield 9, 3) := decs_at DX8_read_0 7 rfl
theorem dX8_read_16 : decode cX8_read 16 = .ok (.if_icmp .ge 48, 3) := decs_at DX8_read_0 8 rfl
theorem dX8_read_19 : decode cX8_read 19 = .ok (.aload_n 0, 1) := decs_at DX8_read_0 9 rfl
theorem dX8_read_20 : decode cX8_read 20 = .ok (.getfield 33, 3) := decs_at DX8_read_0 10 rfl
theorem dX8_read_23 : decode cX8_read 23 = .ok (.aload_n 0, 1) := decs_at DX8_read_0 11 rfl
theorem dX8_read_24 : decode cX8_read 24 = .ok (.getfield 18, 3) := decs_at DX8_read_0 12 rfl
theorem dX8_read_27 : decode cX8_read 27 = .ok (.invokevirtual 51, 3) := decs_at DX8_read_0 13 rfl
theorem dX8_read_30 : decode cX8_read 30 = .ok (.bipush 32, 2) := decs_at DX8_read_0 14 rfl
theorem dX8_read_32 : decode cX8_read 32 = .ok (.if_icmp .eq 19, 3) := decs_at DX8_read_0 15 rfl
theorem dX8_read_35 : decode cX8_read 35 = .ok (.aload_n 0, 1) := decs_at DX8_read_0 16 rfl
theorem dX8_read_36 : decode cX8_read 36 = .ok (.getfield 33, 3) := decs_at DX8_read_0 17 rfl
theorem dX8_read_39 : decode cX8_read 39 = .ok (.aload_n 0, 1) := decs_at DX8_read_0 18 rfl
theorem dX8_read_40 : decode cX8_read 40 = .ok (.getfield 18, 3) := decs_at DX8_read_0 19 rfl
theorem dX8_read_43 : decode cX8_read 43 = .ok (.invokevirtual 51, 3) := decs_at DX8_read_0 20 rfl
theorem dX8_read_46 : decode cX8_read 46 = .ok (.bipush 10, 2) := decs_at DX8_read_0 21 rfl
theorem dX8_read_48 : decode cX8_read 48 = .ok (.if_icmp .ne 16, 3) := decs_at DX8_read_0 22 rfl
theorem dX8_read_51 : decode cX8_read 51 = .ok (.aload_n 0, 1) := decs_at DX8_read_0 23 rfl
theorem DX8_read_24 : decs cX8_read [(52, .dup, 1), (53, .getfield 18, 3), (56, .iconst 1, 1), (57, .iadd, 1), (58, .putfield 18, 3), (61, .goto (-53), 3), (64, .aload_n 0, 1), (65, .getfield 18, 3), (68, .aload_n 0, 1), (69, .getfield 9, 3), (72, .if_icmp .lt 19, 3), (75, .aload_n 0, 1), (76, .aload_n 0, 1), (77, .getfield 9, 3), (80, .putfield 18, 3), (83, .aload_n 0, 1), (84, .iconst 0, 1), (85, .putfield 15, 3), (88, .goto 41, 3), (91, .aload_n 0, 1), (92, .getfield 33, 3), (95, .aload_n 0, 1), (96, .getfield 18, 3), (99, .invokevirtual 51, 3)] := by unfold decs; decide +kernel
theorem dX8_read_52 : decode cX8_read 52 = .ok (.dup, 1) := decs_at DX8_read_24 0 rfl
theorem dX8_read_53 : decode cX8_read 53 = .ok (.getfield 18, 3) := decs_at DX8_read_24 1 rfl
theorem dX8_read_56 : decode cX8_read 56 = .ok (.iconst 1, 1) := decs_at DX8_read_24 2 rfl
theorem dX8_read_57 : decode cX8_read 57 = .ok (.iadd, 1) := decs_at DX8_read_24 3 rfl
theorem dX8_read_58 : decode cX8_read 58 = .ok (.putfield 18, 3) := decs_at DX8_read_24 4 rfl
theorem dX8_read_61 : decode cX8_read 61 = .ok (.goto (-53), 3) := decs_at DX8_read_24 5 rfl
theorem dX8_read_64 : decode cX8_read 64 = .ok (.aload_n 0, 1) := decs_at DX8_read_24 6 rfl
theorem dX8_read_65 : decode cX8_read 65 = .ok (.getfield 18, 3) := decs_at DX8_read_24 7 rfl
theorem dX8_read_68 : decode cX8_read 68 = .ok (.aload_n 0, 1) := decs_at DX8_read_24 8 rfl
theorem dX8_read_69 : decode cX8_read 69 = .ok (.getfield 9, 3) := decs_at DX8_read_24 9 rfl
theorem dX8_read_72 : decode cX8_read 72 = .ok (.if_icmp .lt 19, 3) := decs_at DX8_read_24 10 rfl
theorem dX8_read_75 : decode cX8_read 75 = .ok (.aload_n 0, 1) := decs_at DX8_read_24 11 rfl
theorem dX8_read_76 : decode cX8_read 76 = .ok (.aload_n 0, 1) := decs_at DX8_read_24 12 rfl
theorem dX8_read_77 : decode cX8_read 77 = .ok (.getfield 9, 3) := decs_at DX8_read_24 13 rfl
theorem dX8_read_80 : decode cX8_read 80 = .ok (.putfield 18, 3) := decs_at DX8_read_24 14 rfl
theorem dX8_read_83 : decode cX8_read 83 = .ok (.aload_n 0, 1) := decs_at DX8_read_24 15 rfl
theorem dX8_read_84 : decode cX8_read 84 = .ok (.iconst 0, 1) := decs_at DX8_read_24 16 rfl
theorem dX8_read_85 : decode cX8_read 85 = .ok (.putfield 15, 3) := decs_at DX8_read_24 17 rfl
theorem dX8_read_88 : decode cX8_read 88 = .ok (.goto 41, 3) := decs_at DX8_read_24 18 rfl
theorem dX8_read_91 : decode cX8_read 91 = .ok (.aload_n 0, 1) := decs_at DX8_read_24 19 rfl
theorem dX8_read_92 : decode cX8_read 92 = .ok (.getfield 33, 3) := decs_at DX8_read_24 20 rfl
theorem dX8_read_95 : decode cX8_read 95 = .ok (.aload_n 0, 1) := decs_at DX8_read_24 21 rfl
theorem dX8_read_96 : decode cX8_read 96 = .ok (.getfield 18, 3) := decs_at DX8_read_24 22 rfl
theorem dX8_read_99 : decode cX8_read 99 = .ok (.invokevirtual 51, 3) := decs_at DX8_read_24 23 rfl
theorem DX8_read_48 : decs cX8_read [(102, .bipush 59, 2), (104, .if_icmp .ne 21, 3), (107, .aload_n 0, 1), (108, .aload_n 0, 1), (109, .getfield 18, 3), (112, .iconst 1, 1), (113, .iadd, 1), (114, .putfield 21, 3), (117, .aload_n 0, 1), (118, .iconst 3, 1), (119, .putfield 15, 3), (122, .goto 7, 3), (125, .aload_n 0, 1), (126, .invokevirtual 55, 3), (129, .return_, 1)] := by unfold decs; decide +kernel
theorem dX8_read_102 : decode cX8_read 102 = .ok (.bipush 59, 2) := decs_at DX8_read_48 0 rfl
theorem dX8_read_104 : decode cX8_read 104 = .ok (.if_icmp .ne 21, 3) := decs_at DX8_read_48 1 rfl
theorem dX8_read_107 : decode cX8_read 107 = .ok (.aload_n 0, 1) := decs_at DX8_read_48 2 rfl
theorem dX8_read_108 : decode cX8_read 108 = .ok (.aload_n 0, 1) := decs_at DX8_read_48 3 rfl
theorem dX8_read_109 : decode cX8_read 109 = .ok (.getfield 18, 3) := decs_at DX8_read_48 4 rfl
theorem dX8_read_112 : decode cX8_read 112 = .ok (.iconst 1, 1) := decs_at DX8_read_48 5 rfl
theorem dX8_read_113 : decode cX8_read 113 = .ok (.iadd, 1) := decs_at DX8_read_48 6 rfl
theorem dX8_read_114 : decode cX8_read 114 = .ok (.putfield 21, 3) := decs_at DX8_read_48 7 rfl
theorem dX8_read_117 : decode cX8_read 117 = .ok (.aload_n 0, 1) := decs_at DX8_read_48 8 rfl
theorem dX8_read_118 : decode cX8_read 118 = .ok (.iconst 3, 1) := decs_at DX8_read_48 9 rfl
theorem dX8_read_119 : decode cX8_read 119 = .ok (.putfield 15, 3) := decs_at DX8_read_48 10 rfl
theorem dX8_read_122 : decode cX8_read 122 = .ok (.goto 7, 3) := decs_at DX8_read_48 11 rfl
theorem dX8_read_125 : decode cX8_read 125 = .ok (.aload_n 0, 1) := decs_at DX8_read_48 12 rfl
theorem dX8_read_126 : decode cX8_read 126 = .ok (.invokevirtual 55, 3) := decs_at DX8_read_48 13 rfl
theorem dX8_read_129 : decode cX8_read 129 = .ok (.return_, 1) := decs_at DX8_read_48 14 rfl
theorem DX8_readSigns_0 : decs cX8_readSigns [(0, .iconst 0, 1), (1, .istore_n 1, 1), (2, .iconst 0, 1), (3, .istore_n 2, 1), (4, .aload_n 0, 1), (5, .iconst 0, 1), (6, .putfield 24, 3), (9, .aload_n 0, 1), (10, .iconst 0, 1), (11, .aload_n 0, 1), (12, .getfield 18, 3), (15, .invokestatic 58, 3), (18, .putfield 21, 3), (21, .aload_n 0, 1), (22, .getfield 21, 3), (25, .aload_n 0, 1), (26, .getfield 33, 3), (29, .getfield 37, 3), (32, .if_icmp .ge 88, 3), (35, .aload_n 0, 1), (36, .getfield 21, 3), (39, .sipush 740, 3), (42, .if_icmp .ge 78, 3), (45, .aload_n 0, 1)] := by unfold decs; decide +kernel
theorem dX8_readSigns_0 : decode cX8_readSigns 0 = .ok (.iconst 0, 1) := decs_at DX8_readSigns_0 0 rfl
theorem dX8_readSigns_1 : decode cX8_readSigns 1 = .ok (.istore_n 1, 1) := decs_at DX8_readSigns_0 1 rfl
theorem dX8_readSigns_2 : decode cX8_readSigns 2 = .ok (.iconst 0, 1) := decs_at DX8_readSigns_0 2 rfl
theorem dX8_readSigns_3 : decode cX8_readSigns 3 = .ok (.istore_n 2, 1) := decs_at DX8_readSigns_0 3 rfl
theorem dX8_readSigns_4 : decode cX8_readSigns 4 = .ok (.aload_n 0, 1) := decs_at DX8_readSigns_0 4 rfl
theorem dX8_readSigns_5 : decode cX8_readSigns 5 = .ok (.iconst 0, 1) := decs_at DX8_readSigns_0 5 rfl
theorem dX8_readSigns_6 : decode cX8_readSigns 6 = .ok (.putfield 24, 3) := decs_at DX8_readSigns_0 6 rfl
theorem dX8_readSigns_9 : decode cX8_readSigns 9 = .ok (.aload_n 0, 1) := decs_at DX8_readSigns_0 7 rfl
theorem dX8_readSigns_10 : decode cX8_readSigns 10 = .ok (.iconst 0, 1) := decs_at DX8_readSigns_0 8 rfl
theorem dX8_readSigns_11 : decode cX8_readSigns 11 = .ok (.aload_n 0, 1) := decs_at DX8_readSigns_0 9 rfl
theorem dX8_readSigns_12 : decode cX8_readSigns 12 = .ok (.getfield 18, 3) := decs_at DX8_readSigns_0 10 rfl
theorem dX8_readSigns_15 : decode cX8_readSigns 15 = .ok (.invokestatic 58, 3) := decs_at DX8_readSigns_0 11 rfl
theorem dX8_readSigns_18 : decode cX8_readSigns 18 = .ok (.putfield 21, 3) := decs_at DX8_readSigns_0 12 rfl
theorem dX8_readSigns_21 : decode cX8_readSigns 21 = .ok (.aload_n 0, 1) := decs_at DX8_readSigns_0 13 rfl
theorem dX8_readSigns_22 : decode cX8_readSigns 22 = .ok (.getfield 21, 3) := decs_at DX8_readSigns_0 14 rfl
theorem dX8_readSigns_25 : decode cX8_readSigns 25 = .ok (.aload_n 0, 1) := decs_at DX8_readSigns_0 15 rfl
theorem dX8_readSigns_26 : decode cX8_readSigns 26 = .ok (.getfield 33, 3) := decs_at DX8_readSigns_0 16 rfl
theorem dX8_readSigns_29 : decode cX8_readSigns 29 = .ok (.getfield 37, 3) := decs_at DX8_readSigns_0 17 rfl
theorem dX8_readSigns_32 : decode cX8_readSigns 32 = .ok (.if_icmp .ge 88, 3) := decs_at DX8_readSigns_0 18 rfl
theorem dX8_readSigns_35 : decode cX8_readSigns 35 = .ok (.aload_n 0, 1) := decs_at DX8_readSigns_0 19 rfl
theorem dX8_readSigns_36 : decode cX8_readSigns 36 = .ok (.getfield 21, 3) := decs_at DX8_readSigns_0 20 rfl
theorem dX8_readSigns_39 : decode cX8_readSigns 39 = .ok (.sipush 740, 3) := decs_at DX8_readSigns_0 21 rfl
theorem dX8_readSigns_42 : decode cX8_readSigns 42 = .ok (.if_icmp .ge 78, 3) := decs_at DX8_readSigns_0 22 rfl
theorem dX8_readSigns_45 : decode cX8_readSigns 45 = .ok (.aload_n 0, 1) := decs_at DX8_readSigns_0 23 rfl
theorem DX8_readSigns_24 : decs cX8_readSigns [(46, .getfield 33, 3), (49, .getfield 61, 3), (52, .aload_n 0, 1), (53, .getfield 21, 3), (56, .iaload, 1), (57, .istore_n 3, 1), (58, .iload_n 3, 1), (59, .bipush 97, 2), (61, .if_icmp .lt 15, 3), (64, .iload_n 3, 1), (65, .bipush 122, 2), (67, .if_icmp .gt 9, 3), (70, .iinc 1 1, 3), (73, .goto 34, 3), (76, .iload_n 3, 1), (77, .bipush 48, 2), (79, .if_icmp .lt 41, 3), (82, .iload_n 3, 1), (83, .bipush 57, 2), (85, .if_icmp .gt 35, 3), (88, .aload_n 0, 1), (89, .aload_n 0, 1), (90, .getfield 24, 3), (93, .bipush 10, 2)] := by unfold decs; decide +kernel
theorem dX8_readSigns_46 : decode cX8_readSigns 46 = .ok (.getfield 33, 3) := decs_at DX8_readSigns_24 0 rfl
theorem dX8_readSigns_49 : decode cX8_readSigns 49 = .ok (.getfield 61, 3) := decs_at DX8_readSigns_24 1 rfl
theorem dX8_readSigns_52 : decode cX8_readSigns 52 = .ok (.aload_n 0, 1) := decs_at DX8_readSigns_24 2 rfl
theorem dX8_readSigns_53 : decode cX8_readSigns 53 = .ok (.getfield 21, 3) := decs_at DX8_readSigns_24 3 rfl
theorem dX8_readSigns_56 : decode cX8_readSigns 56 = .ok (.iaload, 1) := decs_at DX8_readSigns_24 4 rfl
theorem dX8_readSigns_57 : decode cX8_readSigns 57 = .ok (.istore_n 3, 1) := decs_at DX8_readSigns_24 5 rfl
theorem dX8_readSigns_58 : decode cX8_readSigns 58 = .ok (.iload_n 3, 1) := decs_at DX8_readSigns_24 6 rfl
theorem dX8_readSigns_59 : decode cX8_readSigns 59 = .ok (.bipush 97, 2) := decs_at DX8_readSigns_24 7 rfl
theorem dX8_readSigns_61 : decode cX8_readSigns 61 = .ok (.if_icmp .lt 15, 3) := decs_at DX8_readSigns_24 8 rfl
theorem dX8_readSigns_64 : decode cX8_readSigns 64 = .ok (.iload_n 3, 1) := decs_at DX8_readSigns_24 9 rfl
theorem dX8_readSigns_65 : decode cX8_readSigns 65 = .ok (.bipush 122, 2) := decs_at DX8_readSigns_24 10 rfl
theorem dX8_readSigns_67 : decode cX8_readSigns 67 = .ok (.if_icmp .gt 9, 3) := decs_at DX8_readSigns_24 11 rfl
theorem dX8_readSigns_70 : decode cX8_readSigns 70 = .ok (.iinc 1 1, 3) := decs_at DX8_readSigns_24 12 rfl
theorem dX8_readSigns_73 : decode cX8_readSigns 73 = .ok (.goto 34, 3) := decs_at DX8_readSigns_24 13 rfl
theorem dX8_readSigns_76 : decode cX8_readSigns 76 = .ok (.iload_n 3, 1) := decs_at DX8_readSigns_24 14 rfl
theorem dX8_readSigns_77 : decode cX8_readSigns 77 = .ok (.bipush 48, 2) := decs_at DX8_readSigns_24 15 rfl
theorem dX8_readSigns_79 : decode cX8_readSigns 79 = .ok (.if_icmp .lt 41, 3) := decs_at DX8_readSigns_24 16 rfl
theorem dX8_readSigns_82 : decode cX8_readSigns 82 = .ok (.iload_n 3, 1) := decs_at DX8_readSigns_24 17 rfl
theorem dX8_readSigns_83 : decode cX8_readSigns 83 = .ok (.bipush 57, 2) := decs_at DX8_readSigns_24 18 rfl
theorem dX8_readSigns_85 : decode cX8_readSigns 85 = .ok (.if_icmp .gt 35, 3) := decs_at DX8_readSigns_24 19 rfl
theorem dX8_readSigns_88 : decode cX8_readSigns 88 = .ok (.aload_n 0, 1) := decs_at DX8_readSigns_24 20 rfl
theorem dX8_readSigns_89 : decode cX8_readSigns 89 = .ok (.aload_n 0, 1) := decs_at DX8_readSigns_24 21 rfl
theorem dX8_readSigns_90 : decode cX8_readSigns 90 = .ok (.getfield 24, 3) := decs_at DX8_readSigns_24 22 rfl
theorem dX8_readSigns_93 : decode cX8_readSigns 93 = .ok (.bipush 10, 2) := decs_at DX8_readSigns_24 23 rfl
theorem DX8_readSigns_48 : decs cX8_readSigns [(95, .imul, 1), (96, .iload_n 3, 1), (97, .iadd, 1), (98, .bipush 48, 2), (100, .isub, 1), (101, .putfield 24, 3), (104, .iinc 2 1, 3), (107, .aload_n 0, 1), (108, .dup, 1), (109, .getfield 21, 3), (112, .iconst 1, 1), (113, .iadd, 1), (114, .putfield 21, 3), (117, .goto (-96), 3), (120, .iload_n 2, 1), (121, .ifCond .ne 21, 3), (124, .iload_n 1, 1), (125, .iconst 1, 1), (126, .if_icmp .lt 16, 3), (129, .iload_n 1, 1), (130, .iconst 5, 1), (131, .if_icmp .gt 11, 3), (134, .aload_n 0, 1), (135, .iconst 1, 1)] := by unfold decs; decide +kernel
theorem dX8_readSigns_95 : decode cX8_readSigns 95 = .ok (.imul, 1) := decs_at DX8_readSigns_48 0 rfl
theorem dX8_readSigns_96 : decode cX8_readSigns 96 = .ok (.iload_n 3, 1) := decs_at DX8_readSigns_48 1 rfl
theorem dX8_readSigns_97 : decode cX8_readSigns 97 = .ok (.iadd, 1) := decs_at DX8_readSigns_48 2 rfl
theorem dX8_readSigns_98 : decode cX8_readSigns 98 = .ok (.bipush 48, 2) := decs_at DX8_readSigns_48 3 rfl
theorem dX8_readSigns_100 : decode cX8_readSigns 100 = .ok (.isub, 1) := decs_at DX8_readSigns_48 4 rfl
theorem dX8_readSigns_101 : decode cX8_readSigns 101 = .ok (.putfield 24, 3) := decs_at DX8_readSigns_48 5 rfl
theorem dX8_readSigns_104 : decode cX8_readSigns 104 = .ok (.iinc 2 1, 3) := decs_at DX8_readSigns_48 6 rfl
theorem dX8_readSigns_107 : decode cX8_readSigns 107 = .ok (.aload_n 0, 1) := decs_at DX8_readSigns_48 7 rfl
theorem dX8_readSigns_108 : decode cX8_readSigns 108 = .ok (.dup, 1) := decs_at DX8_readSigns_48 8 rfl
theorem dX8_readSigns_109 : decode cX8_readSigns 109 = .ok (.getfield 21, 3) := decs_at DX8_readSigns_48 9 rfl
theorem dX8_readSigns_112 : decode cX8_readSigns 112 = .ok (.iconst 1, 1) := decs_at DX8_readSigns_48 10 rfl
theorem dX8_readSigns_113 : decode cX8_readSigns 113 = .ok (.iadd, 1) := decs_at DX8_readSigns_48 11 rfl
theorem dX8_readSigns_114 : decode cX8_readSigns 114 = .ok (.putfield 21, 3) := decs_at DX8_readSigns_48 12 rfl
theorem dX8_readSigns_117 : decode cX8_readSigns 117 = .ok (.goto (-96), 3) := decs_at DX8_readSigns_48 13 rfl
theorem dX8_readSigns_120 : decode cX8_readSigns 120 = .ok (.iload_n 2, 1) := decs_at DX8_readSigns_48 14 rfl
theorem dX8_readSigns_121 : decode cX8_readSigns 121 = .ok (.ifCond .ne 21, 3) := decs_at DX8_readSigns_48 15 rfl
theorem dX8_readSigns_124 : decode cX8_readSigns 124 = .ok (.iload_n 1, 1) := decs_at DX8_readSigns_48 16 rfl
theorem dX8_readSigns_125 : decode cX8_readSigns 125 = .ok (.iconst 1, 1) := decs_at DX8_readSigns_48 17 rfl
theorem dX8_readSigns_126 : decode cX8_readSigns 126 = .ok (.if_icmp .lt 16, 3) := decs_at DX8_readSigns_48 18 rfl
theorem dX8_readSigns_129 : decode cX8_readSigns 129 = .ok (.iload_n 1, 1) := decs_at DX8_readSigns_48 19 rfl
theorem dX8_readSigns_130 : decode cX8_readSigns 130 = .ok (.iconst 5, 1) := decs_at DX8_readSigns_48 20 rfl
theorem dX8_readSigns_131 : decode cX8_readSigns 131 = .ok (.if_icmp .gt 11, 3) := decs_at DX8_readSigns_48 21 rfl
theorem dX8_readSigns_134 : decode cX8_readSigns 134 = .ok (.aload_n 0, 1) := decs_at DX8_readSigns_48 22 rfl
theorem dX8_readSigns_135 : decode cX8_readSigns 135 = .ok (.iconst 1, 1) := decs_at DX8_readSigns_48 23 rfl
theorem DX8_readSigns_72 : decs cX8_readSigns [(136, .putfield 15, 3), (139, .goto 30, 3), (142, .iload_n 1, 1), (143, .ifCond .ne 21, 3), (146, .iload_n 2, 1), (147, .iconst 1, 1), (148, .if_icmp .lt 16, 3), (151, .iload_n 2, 1), (152, .iconst 3, 1), (153, .if_icmp .gt 11, 3), (156, .aload_n 0, 1), (157, .iconst 2, 1), (158, .putfield 15, 3), (161, .goto 8, 3), (164, .aload_n 0, 1), (165, .iconst 4, 1), (166, .putfield 15, 3), (169, .return_, 1)] := by unfold decs; decide +kernel
theorem dX8_readSigns_136 : decode cX8_readSigns 136 = .ok (.putfield 15, 3) := decs_at DX8_readSigns_72 0 rfl
theorem dX8_readSigns_139 : decode cX8_readSigns 139 = .ok (.goto 30, 3) := decs_at DX8_readSigns_72 1 rfl
theorem dX8_readSigns_142 : decode cX8_readSigns 142 = .ok (.iload_n 1, 1) := decs_at DX8_readSigns_72 2 rfl
theorem dX8_readSigns_143 : decode cX8_readSigns 143 = .ok (.ifCond .ne 21, 3) := decs_at DX8_readSigns_72 3 rfl
theorem dX8_readSigns_146 : decode cX8_readSigns 146 = .ok (.iload_n 2, 1) := decs_at DX8_readSigns_72 4 rfl
theorem dX8_readSigns_147 : decode cX8_readSigns 147 = .ok (.iconst 1, 1) := decs_at DX8_readSigns_72 5 rfl
theorem dX8_readSigns_148 : decode cX8_readSigns 148 = .ok (.if_icmp .lt 16, 3) := decs_at DX8_readSigns_72 6 rfl
theorem dX8_readSigns_151 : decode cX8_readSigns 151 = .ok (.iload_n 2, 1) := decs_at DX8_readSigns_72 7 rfl
theorem dX8_readSigns_152 : decode cX8_readSigns 152 = .ok (.iconst 3, 1) := decs_at DX8_readSigns_72 8 rfl
theorem dX8_readSigns_153 : decode cX8_readSigns 153 = .ok (.if_icmp .gt 11, 3) := decs_at DX8_readSigns_72 9 rfl
theorem dX8_readSigns_156 : decode cX8_readSigns 156 = .ok (.aload_n 0, 1) := decs_at DX8_readSigns_72 10 rfl
theorem dX8_readSigns_157 : decode cX8_readSigns 157 = .ok (.iconst 2, 1) := decs_at DX8_readSigns_72 11 rfl
theorem dX8_readSigns_158 : decode cX8_readSigns 158 = .ok (.putfield 15, 3) := decs_at DX8_readSigns_72 12 rfl
theorem dX8_readSigns_161 : decode cX8_readSigns 161 = .ok (.goto 8, 3) := decs_at DX8_readSigns_72 13 rfl
theorem dX8_readSigns_164 : decode cX8_readSigns 164 = .ok (.aload_n 0, 1) := decs_at DX8_readSigns_72 14 rfl
theorem dX8_readSigns_165 : decode cX8_readSigns 165 = .ok (.iconst 4, 1) := decs_at DX8_readSigns_72 15 rfl
theorem dX8_readSigns_166 : decode cX8_readSigns 166 = .ok (.putfield 15, 3) := decs_at DX8_readSigns_72 16 rfl
theorem dX8_readSigns_169 : decode cX8_readSigns 169 = .ok (.return_, 1) := decs_at DX8_readSigns_72 17 rfl
theorem DX8_isWord_0 : decs cX8_isWord [(0, .aload_n 0, 1), (1, .getfield 15, 3), (4, .iconst 1, 1), (5, .if_icmp .ne 19, 3), (8, .aload_n 0, 1), (9, .getfield 21, 3), (12, .aload_n 0, 1), (13, .getfield 18, 3), (16, .isub, 1), (17, .aload_n 1, 1), (18, .invokevirtual 65, 3), (21, .if_icmp .eq 5, 3), (24, .iconst 0, 1), (25, .ireturn, 1), (26, .iconst 0, 1), (27, .istore_n 2, 1), (28, .iload_n 2, 1), (29, .aload_n 1, 1), (30, .invokevirtual 65, 3), (33, .if_icmp .ge 32, 3), (36, .aload_n 0, 1), (37, .getfield 33, 3), (40, .aload_n 0, 1), (41, .getfield 18, 3)] := by unfold decs; decide +kernel
theorem dX8_isWord_0 : decode cX8_isWord 0 = .ok (.aload_n 0, 1) := decs_at DX8_isWord_0 0 rfl
theorem dX8_isWord_1 : decode cX8_isWord 1 = .ok (.getfield 15, 3) := decs_at DX8_isWord_0 1 rfl
theorem dX8_isWord_4 : decode cX8_isWord 4 = .ok (.iconst 1, 1) := decs_at DX8_isWord_0 2 rfl
theorem dX8_isWord_5 : decode cX8_isWord 5 = .ok (.if_icmp .ne 19, 3) := decs_at DX8_isWord_0 3 rfl
theorem dX8_isWord_8 : decode cX8_isWord 8 = .ok (.aload_n 0, 1) := decs_at DX8_isWord_0 4 rfl
theorem dX8_isWord_9 : decode cX8_isWord 9 = .ok (.getfield 21, 3) := decs_at DX8_isWord_0 5 rfl
theorem dX8_isWord_12 : decode cX8_isWord 12 = .ok (.aload_n 0, 1) := decs_at DX8_isWord_0 6 rfl
theorem dX8_isWord_13 : decode cX8_isWord 13 = .ok (.getfield 18, 3) := decs_at DX8_isWord_0 7 rfl
theorem dX8_isWord_16 : decode cX8_isWord 16 = .ok (.isub, 1) := decs_at DX8_isWord_0 8 rfl
theorem dX8_isWord_17 : decode cX8_isWord 17 = .ok (.aload_n 1, 1) := decs_at DX8_isWord_0 9 rfl
theorem dX8_isWord_18 : decode cX8_isWord 18 = .ok (.invokevirtual 65, 3) := decs_at DX8_isWord_0 10 rfl
theorem dX8_isWord_21 : decode cX8_isWord 21 = .ok (.if_icmp .eq 5, 3) := decs_at DX8_isWord_0 11 rfl
theorem dX8_isWord_24 : decode cX8_isWord 24 = .ok (.iconst 0, 1) := decs_at DX8_isWord_0 12 rfl
theorem dX8_isWord_25 : decode cX8_isWord 25 = .ok (.ireturn, 1) := decs_at DX8_isWord_0 13 rfl
theorem dX8_isWord_26 : decode cX8_isWord 26 = .ok (.iconst 0, 1) := decs_at DX8_isWord_0 14 rfl
theorem dX8_isWord_27 : decode cX8_isWord 27 = .ok (.istore_n 2, 1) := decs_at DX8_isWord_0 15 rfl
theorem dX8_isWord_28 : decode cX8_isWord 28 = .ok (.iload_n 2, 1) := decs_at DX8_isWord_0 16 rfl
theorem dX8_isWord_29 : decode cX8_isWord 29 = .ok (.aload_n 1, 1) := decs_at DX8_isWord_0 17 rfl
theorem dX8_isWord_30 : decode cX8_isWord 30 = .ok (.invokevirtual 65, 3) := decs_at DX8_isWord_0 18 rfl
theorem dX8_isWord_33 : decode cX8_isWord 33 = .ok (.if_icmp .ge 32, 3) := decs_at DX8_isWord_0 19 rfl
theorem dX8_isWord_36 : decode cX8_isWord 36 = .ok (.aload_n 0, 1) := decs_at DX8_isWord_0 20 rfl
theorem dX8_isWord_37 : decode cX8_isWord 37 = .ok (.getfield 33, 3) := decs_at DX8_isWord_0 21 rfl
theorem dX8_isWord_40 : decode cX8_isWord 40 = .ok (.aload_n 0, 1) := decs_at DX8_isWord_0 22 rfl
theorem dX8_isWord_41 : decode cX8_isWord 41 = .ok (.getfield 18, 3) := decs_at DX8_isWord_0 23 rfl
theorem DX8_isWord_24 : decs cX8_isWord [(44, .iload_n 2, 1), (45, .iadd, 1), (46, .invokevirtual 51, 3), (49, .aload_n 1, 1), (50, .iload_n 2, 1), (51, .invokevirtual 71, 3), (54, .if_icmp .eq 5, 3), (57, .iconst 0, 1), (58, .ireturn, 1), (59, .iinc 2 1, 3), (62, .goto (-34), 3), (65, .iconst 1, 1), (66, .ireturn, 1)] := by unfold decs; decide +kernel
theorem dX8_isWord_44 : decode cX8_isWord 44 = .ok (.iload_n 2, 1) := decs_at DX8_isWord_24 0 rfl
theorem dX8_isWord_45 : decode cX8_isWord 45 = .ok (.iadd, 1) := decs_at DX8_isWord_24 1 rfl
theorem dX8_isWord_46 : decode cX8_isWord 46 = .ok (.invokevirtual 51, 3) := decs_at DX8_isWord_24 2 rfl
theorem dX8_isWord_49 : decode cX8_isWord 49 = .ok (.aload_n 1, 1) := decs_at DX8_isWord_24 3 rfl
theorem dX8_isWord_50 : decode cX8_isWord 50 = .ok (.iload_n 2, 1) := decs_at DX8_isWord_24 4 rfl
theorem dX8_isWord_51 : decode cX8_isWord 51 = .ok (.invokevirtual 71, 3) := decs_at DX8_isWord_24 5 rfl
theorem dX8_isWord_54 : decode cX8_isWord 54 = .ok (.if_icmp .eq 5, 3) := decs_at DX8_isWord_24 6 rfl
theorem dX8_isWord_57 : decode cX8_isWord 57 = .ok (.iconst 0, 1) := decs_at DX8_isWord_24 7 rfl
theorem dX8_isWord_58 : decode cX8_isWord 58 = .ok (.ireturn, 1) := decs_at DX8_isWord_24 8 rfl
theorem dX8_isWord_59 : decode cX8_isWord 59 = .ok (.iinc 2 1, 3) := decs_at DX8_isWord_24 9 rfl
theorem dX8_isWord_62 : decode cX8_isWord 62 = .ok (.goto (-34), 3) := decs_at DX8_isWord_24 10 rfl
theorem dX8_isWord_65 : decode cX8_isWord 65 = .ok (.iconst 1, 1) := decs_at DX8_isWord_24 11 rfl
theorem dX8_isWord_66 : decode cX8_isWord 66 = .ok (.ireturn, 1) := decs_at DX8_isWord_24 12 rfl
theorem DX8_takeNumber_0 : decs cX8_takeNumber [(0, .aload_n 0, 1), (1, .getfield 15, 3), (4, .iconst 2, 1), (5, .if_icmp .eq 11, 3), (8, .aload_n 0, 1), (9, .iconst 1, 1), (10, .invokevirtual 75, 3), (13, .pop, 1), (14, .iconst (-1), 1), (15, .ireturn, 1), (16, .aload_n 0, 1), (17, .getfield 24, 3), (20, .iload_n 1, 1), (21, .if_icmp .lt 11, 3), (24, .aload_n 0, 1), (25, .getfield 24, 3), (28, .iload_n 2, 1), (29, .if_icmp .le 11, 3), (32, .aload_n 0, 1), (33, .iconst 2, 1), (34, .invokevirtual 75, 3), (37, .pop, 1), (38, .iconst (-1), 1), (39, .ireturn, 1)] := by unfold decs; decide +kernel
theorem dX8_takeNumber_0 : decode cX8_takeNumber 0 = .ok (.aload_n 0, 1) := decs_at DX8_takeNumber_0 0 rfl
theorem dX8_takeNumber_1 : decode cX8_takeNumber 1 = .ok (.getfield 15, 3) := decs_at DX8_takeNumber_0 1 rfl
theorem dX8_takeNumber_4 : decode cX8_takeNumber 4 = .ok (.iconst 2, 1) := decs_at DX8_takeNumber_0 2 rfl
theorem dX8_takeNumber_5 : decode cX8_takeNumber 5 = .ok (.if_icmp .eq 11, 3) := decs_at DX8_takeNumber_0 3 rfl
theorem dX8_takeNumber_8 : decode cX8_takeNumber 8 = .ok (.aload_n 0, 1) := decs_at DX8_takeNumber_0 4 rfl
theorem dX8_takeNumber_9 : decode cX8_takeNumber 9 = .ok (.iconst 1, 1) := decs_at DX8_takeNumber_0 5 rfl
theorem dX8_takeNumber_10 : decode cX8_takeNumber 10 = .ok (.invokevirtual 75, 3) := decs_at DX8_takeNumber_0 6 rfl
theorem dX8_takeNumber_13 : decode cX8_takeNumber 13 = .ok (.pop, 1) := decs_at DX8_takeNumber_0 7 rfl
theorem dX8_takeNumber_14 : decode cX8_takeNumber 14 = .ok (.iconst (-1), 1) := decs_at DX8_takeNumber_0 8 rfl
theorem dX8_takeNumber_15 : decode cX8_takeNumber 15 = .ok (.ireturn, 1) := decs_at DX8_takeNumber_0 9 rfl
theorem dX8_takeNumber_16 : decode cX8_takeNumber 16 = .ok (.aload_n 0, 1) := decs_at DX8_takeNumber_0 10 rfl
theorem dX8_takeNumber_17 : decode cX8_takeNumber 17 = .ok (.getfield 24, 3) := decs_at DX8_takeNumber_0 11 rfl
theorem dX8_takeNumber_20 : decode cX8_takeNumber 20 = .ok (.iload_n 1, 1) := decs_at DX8_takeNumber_0 12 rfl
theorem dX8_takeNumber_21 : decode cX8_takeNumber 21 = .ok (.if_icmp .lt 11, 3) := decs_at DX8_takeNumber_0 13 rfl
theorem dX8_takeNumber_24 : decode cX8_takeNumber 24 = .ok (.aload_n 0, 1) := decs_at DX8_takeNumber_0 14 rfl
theorem dX8_takeNumber_25 : decode cX8_takeNumber 25 = .ok (.getfield 24, 3) := decs_at DX8_takeNumber_0 15 rfl
theorem dX8_takeNumber_28 : decode cX8_takeNumber 28 = .ok (.iload_n 2, 1) := decs_at DX8_takeNumber_0 16 rfl
theorem dX8_takeNumber_29 : decode cX8_takeNumber 29 = .ok (.if_icmp .le 11, 3) := decs_at DX8_takeNumber_0 17 rfl
theorem dX8_takeNumber_32 : decode cX8_takeNumber 32 = .ok (.aload_n 0, 1) := decs_at DX8_takeNumber_0 18 rfl
theorem dX8_takeNumber_33 : decode cX8_takeNumber 33 = .ok (.iconst 2, 1) := decs_at DX8_takeNumber_0 19 rfl
theorem dX8_takeNumber_34 : decode cX8_takeNumber 34 = .ok (.invokevirtual 75, 3) := decs_at DX8_takeNumber_0 20 rfl
theorem dX8_takeNumber_37 : decode cX8_takeNumber 37 = .ok (.pop, 1) := decs_at DX8_takeNumber_0 21 rfl
theorem dX8_takeNumber_38 : decode cX8_takeNumber 38 = .ok (.iconst (-1), 1) := decs_at DX8_takeNumber_0 22 rfl
theorem dX8_takeNumber_39 : decode cX8_takeNumber 39 = .ok (.ireturn, 1) := decs_at DX8_takeNumber_0 23 rfl
theorem DX8_takeNumber_24 : decs cX8_takeNumber [(40, .aload_n 0, 1), (41, .getfield 24, 3), (44, .istore_n 3, 1), (45, .aload_n 0, 1), (46, .invokevirtual 48, 3), (49, .iload_n 3, 1), (50, .ireturn, 1)] := by unfold decs; decide +kernel
theorem dX8_takeNumber_40 : decode cX8_takeNumber 40 = .ok (.aload_n 0, 1) := decs_at DX8_takeNumber_24 0 rfl
theorem dX8_takeNumber_41 : decode cX8_takeNumber 41 = .ok (.getfield 24, 3) := decs_at DX8_takeNumber_24 1 rfl
theorem dX8_takeNumber_44 : decode cX8_takeNumber 44 = .ok (.istore_n 3, 1) := decs_at DX8_takeNumber_24 2 rfl
theorem dX8_takeNumber_45 : decode cX8_takeNumber 45 = .ok (.aload_n 0, 1) := decs_at DX8_takeNumber_24 3 rfl
theorem dX8_takeNumber_46 : decode cX8_takeNumber 46 = .ok (.invokevirtual 48, 3) := decs_at DX8_takeNumber_24 4 rfl
theorem dX8_takeNumber_49 : decode cX8_takeNumber 49 = .ok (.iload_n 3, 1) := decs_at DX8_takeNumber_24 5 rfl
theorem dX8_takeNumber_50 : decode cX8_takeNumber 50 = .ok (.ireturn, 1) := decs_at DX8_takeNumber_24 6 rfl
theorem DX8_takeMark_0 : decs cX8_takeMark [(0, .aload_n 0, 1), (1, .getfield 15, 3), (4, .iconst 3, 1), (5, .if_icmp .eq 9, 3), (8, .aload_n 0, 1), (9, .iconst 1, 1), (10, .invokevirtual 75, 3), (13, .ireturn, 1), (14, .aload_n 0, 1), (15, .invokevirtual 48, 3), (18, .iconst 1, 1), (19, .ireturn, 1)] := by unfold decs; decide +kernel
theorem dX8_takeMark_0 : decode cX8_takeMark 0 = .ok (.aload_n 0, 1) := decs_at DX8_takeMark_0 0 rfl
theorem dX8_takeMark_1 : decode cX8_takeMark 1 = .ok (.getfield 15, 3) := decs_at DX8_takeMark_0 1 rfl
theorem dX8_takeMark_4 : decode cX8_takeMark 4 = .ok (.iconst 3, 1) := decs_at DX8_takeMark_0 2 rfl
theorem dX8_takeMark_5 : decode cX8_takeMark 5 = .ok (.if_icmp .eq 9, 3) := decs_at DX8_takeMark_0 3 rfl
theorem dX8_takeMark_8 : decode cX8_takeMark 8 = .ok (.aload_n 0, 1) := decs_at DX8_takeMark_0 4 rfl
theorem dX8_takeMark_9 : decode cX8_takeMark 9 = .ok (.iconst 1, 1) := decs_at DX8_takeMark_0 5 rfl
theorem dX8_takeMark_10 : decode cX8_takeMark 10 = .ok (.invokevirtual 75, 3) := decs_at DX8_takeMark_0 6 rfl
theorem dX8_takeMark_13 : decode cX8_takeMark 13 = .ok (.ireturn, 1) := decs_at DX8_takeMark_0 7 rfl
theorem dX8_takeMark_14 : decode cX8_takeMark 14 = .ok (.aload_n 0, 1) := decs_at DX8_takeMark_0 8 rfl
theorem dX8_takeMark_15 : decode cX8_takeMark 15 = .ok (.invokevirtual 48, 3) := decs_at DX8_takeMark_0 9 rfl
theorem dX8_takeMark_18 : decode cX8_takeMark 18 = .ok (.iconst 1, 1) := decs_at DX8_takeMark_0 10 rfl
theorem dX8_takeMark_19 : decode cX8_takeMark 19 = .ok (.ireturn, 1) := decs_at DX8_takeMark_0 11 rfl
theorem DX8_refuse_0 : decs cX8_refuse [(0, .aload_n 0, 1), (1, .iload_n 1, 1), (2, .putfield 27, 3), (5, .aload_n 0, 1), (6, .aload_n 0, 1), (7, .getfield 18, 3), (10, .putfield 30, 3), (13, .iconst 0, 1), (14, .ireturn, 1)] := by unfold decs; decide +kernel
theorem dX8_refuse_0 : decode cX8_refuse 0 = .ok (.aload_n 0, 1) := decs_at DX8_refuse_0 0 rfl
theorem dX8_refuse_1 : decode cX8_refuse 1 = .ok (.iload_n 1, 1) := decs_at DX8_refuse_0 1 rfl
theorem dX8_refuse_2 : decode cX8_refuse 2 = .ok (.putfield 27, 3) := decs_at DX8_refuse_0 2 rfl
theorem dX8_refuse_5 : decode cX8_refuse 5 = .ok (.aload_n 0, 1) := decs_at DX8_refuse_0 3 rfl
theorem dX8_refuse_6 : decode cX8_refuse 6 = .ok (.aload_n 0, 1) := decs_at DX8_refuse_0 4 rfl
theorem dX8_refuse_7 : decode cX8_refuse 7 = .ok (.getfield 18, 3) := decs_at DX8_refuse_0 5 rfl
theorem dX8_refuse_10 : decode cX8_refuse 10 = .ok (.putfield 30, 3) := decs_at DX8_refuse_0 6 rfl
theorem dX8_refuse_13 : decode cX8_refuse 13 = .ok (.iconst 0, 1) := decs_at DX8_refuse_0 7 rfl
theorem dX8_refuse_14 : decode cX8_refuse 14 = .ok (.ireturn, 1) := decs_at DX8_refuse_0 8 rfl
theorem DJ6_bitCount_0f7a4_0 : decs cJ6_bitCount_0f7a4 [(0, .iload_n 0, 1), (1, .iload_n 0, 1), (2, .iconst 1, 1), (3, .iushr, 1), (4, .ldc_w 265, 3), (7, .iand, 1), (8, .isub, 1), (9, .istore_n 0, 1), (10, .iload_n 0, 1), (11, .ldc_w 266, 3), (14, .iand, 1), (15, .iload_n 0, 1), (16, .iconst 2, 1), (17, .iushr, 1), (18, .ldc_w 266, 3), (21, .iand, 1), (22, .iadd, 1), (23, .istore_n 0, 1), (24, .iload_n 0, 1), (25, .iload_n 0, 1), (26, .iconst 4, 1), (27, .iushr, 1), (28, .iadd, 1), (29, .ldc_w 267, 3)] := by unfold decs; decide +kernel
theorem dJ6_bitCount_0f7a4_0 : decode cJ6_bitCount_0f7a4 0 = .ok (.iload_n 0, 1) := decs_at DJ6_bitCount_0f7a4_0 0 rfl
theorem dJ6_bitCount_0f7a4_1 : decode cJ6_bitCount_0f7a4 1 = .ok (.iload_n 0, 1) := decs_at DJ6_bitCount_0f7a4_0 1 rfl
theorem dJ6_bitCount_0f7a4_2 : decode cJ6_bitCount_0f7a4 2 = .ok (.iconst 1, 1) := decs_at DJ6_bitCount_0f7a4_0 2 rfl
theorem dJ6_bitCount_0f7a4_3 : decode cJ6_bitCount_0f7a4 3 = .ok (.iushr, 1) := decs_at DJ6_bitCount_0f7a4_0 3 rfl
theorem dJ6_bitCount_0f7a4_4 : decode cJ6_bitCount_0f7a4 4 = .ok (.ldc_w 265, 3) := decs_at DJ6_bitCount_0f7a4_0 4 rfl
theorem dJ6_bitCount_0f7a4_7 : decode cJ6_bitCount_0f7a4 7 = .ok (.iand, 1) := decs_at DJ6_bitCount_0f7a4_0 5 rfl
theorem dJ6_bitCount_0f7a4_8 : decode cJ6_bitCount_0f7a4 8 = .ok (.isub, 1) := decs_at DJ6_bitCount_0f7a4_0 6 rfl
theorem dJ6_bitCount_0f7a4_9 : decode cJ6_bitCount_0f7a4 9 = .ok (.istore_n 0, 1) := decs_at DJ6_bitCount_0f7a4_0 7 rfl
theorem dJ6_bitCount_0f7a4_10 : decode cJ6_bitCount_0f7a4 10 = .ok (.iload_n 0, 1) := decs_at DJ6_bitCount_0f7a4_0 8 rfl
theorem dJ6_bitCount_0f7a4_11 : decode cJ6_bitCount_0f7a4 11 = .ok (.ldc_w 266, 3) := decs_at DJ6_bitCount_0f7a4_0 9 rfl
theorem dJ6_bitCount_0f7a4_14 : decode cJ6_bitCount_0f7a4 14 = .ok (.iand, 1) := decs_at DJ6_bitCount_0f7a4_0 10 rfl
theorem dJ6_bitCount_0f7a4_15 : decode cJ6_bitCount_0f7a4 15 = .ok (.iload_n 0, 1) := decs_at DJ6_bitCount_0f7a4_0 11 rfl
theorem dJ6_bitCount_0f7a4_16 : decode cJ6_bitCount_0f7a4 16 = .ok (.iconst 2, 1) := decs_at DJ6_bitCount_0f7a4_0 12 rfl
theorem dJ6_bitCount_0f7a4_17 : decode cJ6_bitCount_0f7a4 17 = .ok (.iushr, 1) := decs_at DJ6_bitCount_0f7a4_0 13 rfl
theorem dJ6_bitCount_0f7a4_18 : decode cJ6_bitCount_0f7a4 18 = .ok (.ldc_w 266, 3) := decs_at DJ6_bitCount_0f7a4_0 14 rfl
theorem dJ6_bitCount_0f7a4_21 : decode cJ6_bitCount_0f7a4 21 = .ok (.iand, 1) := decs_at DJ6_bitCount_0f7a4_0 15 rfl
theorem dJ6_bitCount_0f7a4_22 : decode cJ6_bitCount_0f7a4 22 = .ok (.iadd, 1) := decs_at DJ6_bitCount_0f7a4_0 16 rfl
theorem dJ6_bitCount_0f7a4_23 : decode cJ6_bitCount_0f7a4 23 = .ok (.istore_n 0, 1) := decs_at DJ6_bitCount_0f7a4_0 17 rfl
theorem dJ6_bitCount_0f7a4_24 : decode cJ6_bitCount_0f7a4 24 = .ok (.iload_n 0, 1) := decs_at DJ6_bitCount_0f7a4_0 18 rfl
theorem dJ6_bitCount_0f7a4_25 : decode cJ6_bitCount_0f7a4 25 = .ok (.iload_n 0, 1) := decs_at DJ6_bitCount_0f7a4_0 19 rfl
theorem dJ6_bitCount_0f7a4_26 : decode cJ6_bitCount_0f7a4 26 = .ok (.iconst 4, 1) := decs_at DJ6_bitCount_0f7a4_0 20 rfl
theorem dJ6_bitCount_0f7a4_27 : decode cJ6_bitCount_0f7a4 27 = .ok (.iushr, 1) := decs_at DJ6_bitCount_0f7a4_0 21 rfl
theorem dJ6_bitCount_0f7a4_28 : decode cJ6_bitCount_0f7a4 28 = .ok (.iadd, 1) := decs_at DJ6_bitCount_0f7a4_0 22 rfl
theorem dJ6_bitCount_0f7a4_29 : decode cJ6_bitCount_0f7a4 29 = .ok (.ldc_w 267, 3) := decs_at DJ6_bitCount_0f7a4_0 23 rfl
theorem DJ6_bitCount_0f7a4_24 : decs cJ6_bitCount_0f7a4 [(32, .iand, 1), (33, .istore_n 0, 1), (34, .iload_n 0, 1), (35, .iload_n 0, 1), (36, .bipush 8, 2), (38, .iushr, 1), (39, .iadd, 1), (40, .istore_n 0, 1), (41, .iload_n 0, 1), (42, .iload_n 0, 1), (43, .bipush 16, 2), (45, .iushr, 1), (46, .iadd, 1), (47, .istore_n 0, 1), (48, .iload_n 0, 1), (49, .bipush 63, 2), (51, .iand, 1), (52, .ireturn, 1)] := by unfold decs; decide +kernel
theorem dJ6_bitCount_0f7a4_32 : decode cJ6_bitCount_0f7a4 32 = .ok (.iand, 1) := decs_at DJ6_bitCount_0f7a4_24 0 rfl
theorem dJ6_bitCount_0f7a4_33 : decode cJ6_bitCount_0f7a4 33 = .ok (.istore_n 0, 1) := decs_at DJ6_bitCount_0f7a4_24 1 rfl
theorem dJ6_bitCount_0f7a4_34 : decode cJ6_bitCount_0f7a4 34 = .ok (.iload_n 0, 1) := decs_at DJ6_bitCount_0f7a4_24 2 rfl
theorem dJ6_bitCount_0f7a4_35 : decode cJ6_bitCount_0f7a4 35 = .ok (.iload_n 0, 1) := decs_at DJ6_bitCount_0f7a4_24 3 rfl
theorem dJ6_bitCount_0f7a4_36 : decode cJ6_bitCount_0f7a4 36 = .ok (.bipush 8, 2) := decs_at DJ6_bitCount_0f7a4_24 4 rfl
theorem dJ6_bitCount_0f7a4_38 : decode cJ6_bitCount_0f7a4 38 = .ok (.iushr, 1) := decs_at DJ6_bitCount_0f7a4_24 5 rfl
theorem dJ6_bitCount_0f7a4_39 : decode cJ6_bitCount_0f7a4 39 = .ok (.iadd, 1) := decs_at DJ6_bitCount_0f7a4_24 6 rfl
theorem dJ6_bitCount_0f7a4_40 : decode cJ6_bitCount_0f7a4 40 = .ok (.istore_n 0, 1) := decs_at DJ6_bitCount_0f7a4_24 7 rfl
theorem dJ6_bitCount_0f7a4_41 : decode cJ6_bitCount_0f7a4 41 = .ok (.iload_n 0, 1) := decs_at DJ6_bitCount_0f7a4_24 8 rfl
theorem dJ6_bitCount_0f7a4_42 : decode cJ6_bitCount_0f7a4 42 = .ok (.iload_n 0, 1) := decs_at DJ6_bitCount_0f7a4_24 9 rfl
theorem dJ6_bitCount_0f7a4_43 : decode cJ6_bitCount_0f7a4 43 = .ok (.bipush 16, 2) := decs_at DJ6_bitCount_0f7a4_24 10 rfl
theorem dJ6_bitCount_0f7a4_45 : decode cJ6_bitCount_0f7a4 45 = .ok (.iushr, 1) := decs_at DJ6_bitCount_0f7a4_24 11 rfl
theorem dJ6_bitCount_0f7a4_46 : decode cJ6_bitCount_0f7a4 46 = .ok (.iadd, 1) := decs_at DJ6_bitCount_0f7a4_24 12 rfl
theorem dJ6_bitCount_0f7a4_47 : decode cJ6_bitCount_0f7a4 47 = .ok (.istore_n 0, 1) := decs_at DJ6_bitCount_0f7a4_24 13 rfl
theorem dJ6_bitCount_0f7a4_48 : decode cJ6_bitCount_0f7a4 48 = .ok (.iload_n 0, 1) := decs_at DJ6_bitCount_0f7a4_24 14 rfl
theorem dJ6_bitCount_0f7a4_49 : decode cJ6_bitCount_0f7a4 49 = .ok (.bipush 63, 2) := decs_at DJ6_bitCount_0f7a4_24 15 rfl
theorem dJ6_bitCount_0f7a4_51 : decode cJ6_bitCount_0f7a4 51 = .ok (.iand, 1) := decs_at DJ6_bitCount_0f7a4_24 16 rfl
theorem dJ6_bitCount_0f7a4_52 : decode cJ6_bitCount_0f7a4 52 = .ok (.ireturn, 1) := decs_at DJ6_bitCount_0f7a4_24 17 rfl
