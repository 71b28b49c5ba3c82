theorem DX3_readTape_0 : decs cX3_readTape [(0, .aload_n 0, 1), (1, .getfield 12, 3), (4, .invokevirtual 22, 3), (7, .aload_n 0, 1), (8, .getfield 18, 3), (11, .sipush 300, 3), (14, .invokevirtual 25, 3), (17, .aload_n 0, 1), (18, .getfield 18, 3), (21, .ldc 31, 2), (23, .invokevirtual 33, 3), (26, .ifCond .eq 30, 3), (29, .aload_n 0, 1), (30, .getfield 18, 3), (33, .invokevirtual 37, 3), (36, .aload_n 0, 1), (37, .getfield 18, 3), (40, .invokevirtual 40, 3), (43, .ifCond .ne 5, 3), (46, .iconst (-1), 1), (47, .ireturn, 1), (48, .aload_n 0, 1), (49, .getfield 12, 3), (52, .iconst 1, 1)] := by unfold decs; decide +kernel
theorem dX3_readTape_0 : decode cX3_readTape 0 = .ok (.aload_n 0, 1) := decs_at DX3_readTape_0 0 rfl
theorem dX3_readTape_1 : decode cX3_readTape 1 = .ok (.getfield 12, 3) := decs_at DX3_readTape_0 1 rfl
theorem dX3_readTape_4 : decode cX3_readTape 4 = .ok (.invokevirtual 22, 3) := decs_at DX3_readTape_0 2 rfl
theorem dX3_readTape_7 : decode cX3_readTape 7 = .ok (.aload_n 0, 1) := decs_at DX3_readTape_0 3 rfl
theorem dX3_readTape_8 : decode cX3_readTape 8 = .ok (.getfield 18, 3) := decs_at DX3_readTape_0 4 rfl
theorem dX3_readTape_11 : decode cX3_readTape 11 = .ok (.sipush 300, 3) := decs_at DX3_readTape_0 5 rfl
theorem dX3_readTape_14 : decode cX3_readTape 14 = .ok (.invokevirtual 25, 3) := decs_at DX3_readTape_0 6 rfl
theorem dX3_readTape_17 : decode cX3_readTape 17 = .ok (.aload_n 0, 1) := decs_at DX3_readTape_0 7 rfl
theorem dX3_readTape_18 : decode cX3_readTape 18 = .ok (.getfield 18, 3) := decs_at DX3_readTape_0 8 rfl
theorem dX3_readTape_21 : decode cX3_readTape 21 = .ok (.ldc 31, 2) := decs_at DX3_readTape_0 9 rfl
theorem dX3_readTape_23 : decode cX3_readTape 23 = .ok (.invokevirtual 33, 3) := decs_at DX3_readTape_0 10 rfl
theorem dX3_readTape_26 : decode cX3_readTape 26 = .ok (.ifCond .eq 30, 3) := decs_at DX3_readTape_0 11 rfl
theorem dX3_readTape_29 : decode cX3_readTape 29 = .ok (.aload_n 0, 1) := decs_at DX3_readTape_0 12 rfl
theorem dX3_readTape_30 : decode cX3_readTape 30 = .ok (.getfield 18, 3) := decs_at DX3_readTape_0 13 rfl
theorem dX3_readTape_33 : decode cX3_readTape 33 = .ok (.invokevirtual 37, 3) := decs_at DX3_readTape_0 14 rfl
theorem dX3_readTape_36 : decode cX3_readTape 36 = .ok (.aload_n 0, 1) := decs_at DX3_readTape_0 15 rfl
theorem dX3_readTape_37 : decode cX3_readTape 37 = .ok (.getfield 18, 3) := decs_at DX3_readTape_0 16 rfl
theorem dX3_readTape_40 : decode cX3_readTape 40 = .ok (.invokevirtual 40, 3) := decs_at DX3_readTape_0 17 rfl
theorem dX3_readTape_43 : decode cX3_readTape 43 = .ok (.ifCond .ne 5, 3) := decs_at DX3_readTape_0 18 rfl
theorem dX3_readTape_46 : decode cX3_readTape 46 = .ok (.iconst (-1), 1) := decs_at DX3_readTape_0 19 rfl
theorem dX3_readTape_47 : decode cX3_readTape 47 = .ok (.ireturn, 1) := decs_at DX3_readTape_0 20 rfl
theorem dX3_readTape_48 : decode cX3_readTape 48 = .ok (.aload_n 0, 1) := decs_at DX3_readTape_0 21 rfl
theorem dX3_readTape_49 : decode cX3_readTape 49 = .ok (.getfield 12, 3) := decs_at DX3_readTape_0 22 rfl
theorem dX3_readTape_52 : decode cX3_readTape 52 = .ok (.iconst 1, 1) := decs_at DX3_readTape_0 23 rfl
theorem DX3_readTape_24 : decs cX3_readTape [(53, .putfield 44, 3), (56, .iconst 0, 1), (57, .istore_n 1, 1), (58, .iload_n 1, 1), (59, .bipush 20, 2), (61, .if_icmp .gt 38, 3), (64, .aload_n 0, 1), (65, .getfield 18, 3), (68, .invokevirtual 47, 3), (71, .ifCond .ne 28, 3), (74, .aload_n 0, 1), (75, .invokevirtual 50, 3), (78, .ifCond .eq 13, 3), (81, .aload_n 0, 1), (82, .getfield 18, 3), (85, .invokevirtual 40, 3), (88, .ifCond .ne 5, 3), (91, .iconst (-1), 1), (92, .ireturn, 1), (93, .iinc 1 1, 3), (96, .goto (-38), 3), (99, .aload_n 0, 1), (100, .getfield 18, 3), (103, .invokevirtual 53, 3)] := by unfold decs; decide +kernel
theorem dX3_readTape_53 : decode cX3_readTape 53 = .ok (.putfield 44, 3) := decs_at DX3_readTape_24 0 rfl
theorem dX3_readTape_56 : decode cX3_readTape 56 = .ok (.iconst 0, 1) := decs_at DX3_readTape_24 1 rfl
theorem dX3_readTape_57 : decode cX3_readTape 57 = .ok (.istore_n 1, 1) := decs_at DX3_readTape_24 2 rfl
theorem dX3_readTape_58 : decode cX3_readTape 58 = .ok (.iload_n 1, 1) := decs_at DX3_readTape_24 3 rfl
theorem dX3_readTape_59 : decode cX3_readTape 59 = .ok (.bipush 20, 2) := decs_at DX3_readTape_24 4 rfl
theorem dX3_readTape_61 : decode cX3_readTape 61 = .ok (.if_icmp .gt 38, 3) := decs_at DX3_readTape_24 5 rfl
theorem dX3_readTape_64 : decode cX3_readTape 64 = .ok (.aload_n 0, 1) := decs_at DX3_readTape_24 6 rfl
theorem dX3_readTape_65 : decode cX3_readTape 65 = .ok (.getfield 18, 3) := decs_at DX3_readTape_24 7 rfl
theorem dX3_readTape_68 : decode cX3_readTape 68 = .ok (.invokevirtual 47, 3) := decs_at DX3_readTape_24 8 rfl
theorem dX3_readTape_71 : decode cX3_readTape 71 = .ok (.ifCond .ne 28, 3) := decs_at DX3_readTape_24 9 rfl
theorem dX3_readTape_74 : decode cX3_readTape 74 = .ok (.aload_n 0, 1) := decs_at DX3_readTape_24 10 rfl
theorem dX3_readTape_75 : decode cX3_readTape 75 = .ok (.invokevirtual 50, 3) := decs_at DX3_readTape_24 11 rfl
theorem dX3_readTape_78 : decode cX3_readTape 78 = .ok (.ifCond .eq 13, 3) := decs_at DX3_readTape_24 12 rfl
theorem dX3_readTape_81 : decode cX3_readTape 81 = .ok (.aload_n 0, 1) := decs_at DX3_readTape_24 13 rfl
theorem dX3_readTape_82 : decode cX3_readTape 82 = .ok (.getfield 18, 3) := decs_at DX3_readTape_24 14 rfl
theorem dX3_readTape_85 : decode cX3_readTape 85 = .ok (.invokevirtual 40, 3) := decs_at DX3_readTape_24 15 rfl
theorem dX3_readTape_88 : decode cX3_readTape 88 = .ok (.ifCond .ne 5, 3) := decs_at DX3_readTape_24 16 rfl
theorem dX3_readTape_91 : decode cX3_readTape 91 = .ok (.iconst (-1), 1) := decs_at DX3_readTape_24 17 rfl
theorem dX3_readTape_92 : decode cX3_readTape 92 = .ok (.ireturn, 1) := decs_at DX3_readTape_24 18 rfl
theorem dX3_readTape_93 : decode cX3_readTape 93 = .ok (.iinc 1 1, 3) := decs_at DX3_readTape_24 19 rfl
theorem dX3_readTape_96 : decode cX3_readTape 96 = .ok (.goto (-38), 3) := decs_at DX3_readTape_24 20 rfl
theorem dX3_readTape_99 : decode cX3_readTape 99 = .ok (.aload_n 0, 1) := decs_at DX3_readTape_24 21 rfl
theorem dX3_readTape_100 : decode cX3_readTape 100 = .ok (.getfield 18, 3) := decs_at DX3_readTape_24 22 rfl
theorem dX3_readTape_103 : decode cX3_readTape 103 = .ok (.invokevirtual 53, 3) := decs_at DX3_readTape_24 23 rfl
theorem DX3_readTape_48 : decs cX3_readTape [(106, .ifCond .eq 14, 3), (109, .aload_n 0, 1), (110, .getfield 18, 3), (113, .iconst 1, 1), (114, .invokevirtual 56, 3), (117, .pop, 1), (118, .iconst (-1), 1), (119, .ireturn, 1), (120, .aload_n 0, 1), (121, .getfield 12, 3), (124, .getfield 60, 3), (127, .ireturn, 1)] := by unfold decs; decide +kernel
theorem dX3_readTape_106 : decode cX3_readTape 106 = .ok (.ifCond .eq 14, 3) := decs_at DX3_readTape_48 0 rfl
theorem dX3_readTape_109 : decode cX3_readTape 109 = .ok (.aload_n 0, 1) := decs_at DX3_readTape_48 1 rfl
theorem dX3_readTape_110 : decode cX3_readTape 110 = .ok (.getfield 18, 3) := decs_at DX3_readTape_48 2 rfl
theorem dX3_readTape_113 : decode cX3_readTape 113 = .ok (.iconst 1, 1) := decs_at DX3_readTape_48 3 rfl
theorem dX3_readTape_114 : decode cX3_readTape 114 = .ok (.invokevirtual 56, 3) := decs_at DX3_readTape_48 4 rfl
theorem dX3_readTape_117 : decode cX3_readTape 117 = .ok (.pop, 1) := decs_at DX3_readTape_48 5 rfl
theorem dX3_readTape_118 : decode cX3_readTape 118 = .ok (.iconst (-1), 1) := decs_at DX3_readTape_48 6 rfl
theorem dX3_readTape_119 : decode cX3_readTape 119 = .ok (.ireturn, 1) := decs_at DX3_readTape_48 7 rfl
theorem dX3_readTape_120 : decode cX3_readTape 120 = .ok (.aload_n 0, 1) := decs_at DX3_readTape_48 8 rfl
theorem dX3_readTape_121 : decode cX3_readTape 121 = .ok (.getfield 12, 3) := decs_at DX3_readTape_48 9 rfl
theorem dX3_readTape_124 : decode cX3_readTape 124 = .ok (.getfield 60, 3) := decs_at DX3_readTape_48 10 rfl
theorem dX3_readTape_127 : decode cX3_readTape 127 = .ok (.ireturn, 1) := decs_at DX3_readTape_48 11 rfl
theorem DX3_readStep_0 : decs cX3_readStep [(0, .aload_n 0, 1), (1, .invokevirtual 64, 3), (4, .istore_n 1, 1), (5, .iload_n 1, 1), (6, .iconst (-1), 1), (7, .if_icmp .ne 12, 3), (10, .aload_n 0, 1), (11, .getfield 18, 3), (14, .iconst 1, 1), (15, .invokevirtual 56, 3), (18, .ireturn, 1), (19, .aload_n 0, 1), (20, .getfield 12, 3), (23, .getfield 60, 3), (26, .bipush 20, 2), (28, .if_icmp .lt 12, 3), (31, .aload_n 0, 1), (32, .getfield 18, 3), (35, .iconst 4, 1), (36, .invokevirtual 56, 3), (39, .ireturn, 1), (40, .aload_n 0, 1), (41, .getfield 18, 3), (44, .invokevirtual 37, 3)] := by unfold decs; decide +kernel
theorem dX3_readStep_0 : decode cX3_readStep 0 = .ok (.aload_n 0, 1) := decs_at DX3_readStep_0 0 rfl
theorem dX3_readStep_1 : decode cX3_readStep 1 = .ok (.invokevirtual 64, 3) := decs_at DX3_readStep_0 1 rfl
theorem dX3_readStep_4 : decode cX3_readStep 4 = .ok (.istore_n 1, 1) := decs_at DX3_readStep_0 2 rfl
theorem dX3_readStep_5 : decode cX3_readStep 5 = .ok (.iload_n 1, 1) := decs_at DX3_readStep_0 3 rfl
theorem dX3_readStep_6 : decode cX3_readStep 6 = .ok (.iconst (-1), 1) := decs_at DX3_readStep_0 4 rfl
theorem dX3_readStep_7 : decode cX3_readStep 7 = .ok (.if_icmp .ne 12, 3) := decs_at DX3_readStep_0 5 rfl
theorem dX3_readStep_10 : decode cX3_readStep 10 = .ok (.aload_n 0, 1) := decs_at DX3_readStep_0 6 rfl
theorem dX3_readStep_11 : decode cX3_readStep 11 = .ok (.getfield 18, 3) := decs_at DX3_readStep_0 7 rfl
theorem dX3_readStep_14 : decode cX3_readStep 14 = .ok (.iconst 1, 1) := decs_at DX3_readStep_0 8 rfl
theorem dX3_readStep_15 : decode cX3_readStep 15 = .ok (.invokevirtual 56, 3) := decs_at DX3_readStep_0 9 rfl
theorem dX3_readStep_18 : decode cX3_readStep 18 = .ok (.ireturn, 1) := decs_at DX3_readStep_0 10 rfl
theorem dX3_readStep_19 : decode cX3_readStep 19 = .ok (.aload_n 0, 1) := decs_at DX3_readStep_0 11 rfl
theorem dX3_readStep_20 : decode cX3_readStep 20 = .ok (.getfield 12, 3) := decs_at DX3_readStep_0 12 rfl
theorem dX3_readStep_23 : decode cX3_readStep 23 = .ok (.getfield 60, 3) := decs_at DX3_readStep_0 13 rfl
theorem dX3_readStep_26 : decode cX3_readStep 26 = .ok (.bipush 20, 2) := decs_at DX3_readStep_0 14 rfl
theorem dX3_readStep_28 : decode cX3_readStep 28 = .ok (.if_icmp .lt 12, 3) := decs_at DX3_readStep_0 15 rfl
theorem dX3_readStep_31 : decode cX3_readStep 31 = .ok (.aload_n 0, 1) := decs_at DX3_readStep_0 16 rfl
theorem dX3_readStep_32 : decode cX3_readStep 32 = .ok (.getfield 18, 3) := decs_at DX3_readStep_0 17 rfl
theorem dX3_readStep_35 : decode cX3_readStep 35 = .ok (.iconst 4, 1) := decs_at DX3_readStep_0 18 rfl
theorem dX3_readStep_36 : decode cX3_readStep 36 = .ok (.invokevirtual 56, 3) := decs_at DX3_readStep_0 19 rfl
theorem dX3_readStep_39 : decode cX3_readStep 39 = .ok (.ireturn, 1) := decs_at DX3_readStep_0 20 rfl
theorem dX3_readStep_40 : decode cX3_readStep 40 = .ok (.aload_n 0, 1) := decs_at DX3_readStep_0 21 rfl
theorem dX3_readStep_41 : decode cX3_readStep 41 = .ok (.getfield 18, 3) := decs_at DX3_readStep_0 22 rfl
theorem dX3_readStep_44 : decode cX3_readStep 44 = .ok (.invokevirtual 37, 3) := decs_at DX3_readStep_0 23 rfl
theorem DX3_readStep_24 : decs cX3_readStep [(47, .iload_n 1, 1), (48, .iconst 2, 1), (49, .if_icmp .ne 16, 3), (52, .aload_n 0, 1), (53, .getfield 18, 3), (56, .iconst 1, 1), (57, .bipush 99, 2), (59, .invokevirtual 68, 3), (62, .goto 4, 3), (65, .iconst 0, 1), (66, .istore_n 2, 1), (67, .iload_n 2, 1), (68, .iconst (-1), 1), (69, .if_icmp .ne 5, 3), (72, .iconst 0, 1), (73, .ireturn, 1), (74, .aload_n 0, 1), (75, .getfield 18, 3), (78, .iconst 1, 1), (79, .bipush 99, 2), (81, .invokevirtual 68, 3), (84, .istore_n 3, 1), (85, .iload_n 3, 1), (86, .iconst (-1), 1)] := by unfold decs; decide +kernel
theorem dX3_readStep_47 : decode cX3_readStep 47 = .ok (.iload_n 1, 1) := decs_at DX3_readStep_24 0 rfl
theorem dX3_readStep_48 : decode cX3_readStep 48 = .ok (.iconst 2, 1) := decs_at DX3_readStep_24 1 rfl
theorem dX3_readStep_49 : decode cX3_readStep 49 = .ok (.if_icmp .ne 16, 3) := decs_at DX3_readStep_24 2 rfl
theorem dX3_readStep_52 : decode cX3_readStep 52 = .ok (.aload_n 0, 1) := decs_at DX3_readStep_24 3 rfl
theorem dX3_readStep_53 : decode cX3_readStep 53 = .ok (.getfield 18, 3) := decs_at DX3_readStep_24 4 rfl
theorem dX3_readStep_56 : decode cX3_readStep 56 = .ok (.iconst 1, 1) := decs_at DX3_readStep_24 5 rfl
theorem dX3_readStep_57 : decode cX3_readStep 57 = .ok (.bipush 99, 2) := decs_at DX3_readStep_24 6 rfl
theorem dX3_readStep_59 : decode cX3_readStep 59 = .ok (.invokevirtual 68, 3) := decs_at DX3_readStep_24 7 rfl
theorem dX3_readStep_62 : decode cX3_readStep 62 = .ok (.goto 4, 3) := decs_at DX3_readStep_24 8 rfl
theorem dX3_readStep_65 : decode cX3_readStep 65 = .ok (.iconst 0, 1) := decs_at DX3_readStep_24 9 rfl
theorem dX3_readStep_66 : decode cX3_readStep 66 = .ok (.istore_n 2, 1) := decs_at DX3_readStep_24 10 rfl
theorem dX3_readStep_67 : decode cX3_readStep 67 = .ok (.iload_n 2, 1) := decs_at DX3_readStep_24 11 rfl
theorem dX3_readStep_68 : decode cX3_readStep 68 = .ok (.iconst (-1), 1) := decs_at DX3_readStep_24 12 rfl
theorem dX3_readStep_69 : decode cX3_readStep 69 = .ok (.if_icmp .ne 5, 3) := decs_at DX3_readStep_24 13 rfl
theorem dX3_readStep_72 : decode cX3_readStep 72 = .ok (.iconst 0, 1) := decs_at DX3_readStep_24 14 rfl
theorem dX3_readStep_73 : decode cX3_readStep 73 = .ok (.ireturn, 1) := decs_at DX3_readStep_24 15 rfl
theorem dX3_readStep_74 : decode cX3_readStep 74 = .ok (.aload_n 0, 1) := decs_at DX3_readStep_24 16 rfl
theorem dX3_readStep_75 : decode cX3_readStep 75 = .ok (.getfield 18, 3) := decs_at DX3_readStep_24 17 rfl
theorem dX3_readStep_78 : decode cX3_readStep 78 = .ok (.iconst 1, 1) := decs_at DX3_readStep_24 18 rfl
theorem dX3_readStep_79 : decode cX3_readStep 79 = .ok (.bipush 99, 2) := decs_at DX3_readStep_24 19 rfl
theorem dX3_readStep_81 : decode cX3_readStep 81 = .ok (.invokevirtual 68, 3) := decs_at DX3_readStep_24 20 rfl
theorem dX3_readStep_84 : decode cX3_readStep 84 = .ok (.istore_n 3, 1) := decs_at DX3_readStep_24 21 rfl
theorem dX3_readStep_85 : decode cX3_readStep 85 = .ok (.iload_n 3, 1) := decs_at DX3_readStep_24 22 rfl
theorem dX3_readStep_86 : decode cX3_readStep 86 = .ok (.iconst (-1), 1) := decs_at DX3_readStep_24 23 rfl
theorem DX3_readStep_48 : decs cX3_readStep [(87, .if_icmp .ne 5, 3), (90, .iconst 0, 1), (91, .ireturn, 1), (92, .aload_n 0, 1), (93, .getfield 12, 3), (96, .iload_n 1, 1), (97, .iload_n 2, 1), (98, .iload_n 3, 1), (99, .invokevirtual 72, 3), (102, .iconst 1, 1), (103, .ireturn, 1)] := by unfold decs; decide +kernel
theorem dX3_readStep_87 : decode cX3_readStep 87 = .ok (.if_icmp .ne 5, 3) := decs_at DX3_readStep_48 0 rfl
theorem dX3_readStep_90 : decode cX3_readStep 90 = .ok (.iconst 0, 1) := decs_at DX3_readStep_48 1 rfl
theorem dX3_readStep_91 : decode cX3_readStep 91 = .ok (.ireturn, 1) := decs_at DX3_readStep_48 2 rfl
theorem dX3_readStep_92 : decode cX3_readStep 92 = .ok (.aload_n 0, 1) := decs_at DX3_readStep_48 3 rfl
theorem dX3_readStep_93 : decode cX3_readStep 93 = .ok (.getfield 12, 3) := decs_at DX3_readStep_48 4 rfl
theorem dX3_readStep_96 : decode cX3_readStep 96 = .ok (.iload_n 1, 1) := decs_at DX3_readStep_48 5 rfl
theorem dX3_readStep_97 : decode cX3_readStep 97 = .ok (.iload_n 2, 1) := decs_at DX3_readStep_48 6 rfl
theorem dX3_readStep_98 : decode cX3_readStep 98 = .ok (.iload_n 3, 1) := decs_at DX3_readStep_48 7 rfl
theorem dX3_readStep_99 : decode cX3_readStep 99 = .ok (.invokevirtual 72, 3) := decs_at DX3_readStep_48 8 rfl
theorem dX3_readStep_102 : decode cX3_readStep 102 = .ok (.iconst 1, 1) := decs_at DX3_readStep_48 9 rfl
theorem dX3_readStep_103 : decode cX3_readStep 103 = .ok (.ireturn, 1) := decs_at DX3_readStep_48 10 rfl
theorem DX3_actHere_0 : decs cX3_actHere [(0, .aload_n 0, 1), (1, .getfield 18, 3), (4, .ldc 76, 2), (6, .invokevirtual 33, 3), (9, .ifCond .eq 5, 3), (12, .iconst 0, 1), (13, .ireturn, 1), (14, .aload_n 0, 1), (15, .getfield 18, 3), (18, .ldc 78, 2), (20, .invokevirtual 33, 3), (23, .ifCond .eq 5, 3), (26, .iconst 1, 1), (27, .ireturn, 1), (28, .aload_n 0, 1), (29, .getfield 18, 3), (32, .ldc 80, 2), (34, .invokevirtual 33, 3), (37, .ifCond .eq 5, 3), (40, .iconst 2, 1), (41, .ireturn, 1), (42, .aload_n 0, 1), (43, .getfield 18, 3), (46, .ldc 82, 2)] := by unfold decs; decide +kernel
theorem dX3_actHere_0 : decode cX3_actHere 0 = .ok (.aload_n 0, 1) := decs_at DX3_actHere_0 0 rfl
theorem dX3_actHere_1 : decode cX3_actHere 1 = .ok (.getfield 18, 3) := decs_at DX3_actHere_0 1 rfl
theorem dX3_actHere_4 : decode cX3_actHere 4 = .ok (.ldc 76, 2) := decs_at DX3_actHere_0 2 rfl
theorem dX3_actHere_6 : decode cX3_actHere 6 = .ok (.invokevirtual 33, 3) := decs_at DX3_actHere_0 3 rfl
theorem dX3_actHere_9 : decode cX3_actHere 9 = .ok (.ifCond .eq 5, 3) := decs_at DX3_actHere_0 4 rfl
theorem dX3_actHere_12 : decode cX3_actHere 12 = .ok (.iconst 0, 1) := decs_at DX3_actHere_0 5 rfl
theorem dX3_actHere_13 : decode cX3_actHere 13 = .ok (.ireturn, 1) := decs_at DX3_actHere_0 6 rfl
theorem dX3_actHere_14 : decode cX3_actHere 14 = .ok (.aload_n 0, 1) := decs_at DX3_actHere_0 7 rfl
theorem dX3_actHere_15 : decode cX3_actHere 15 = .ok (.getfield 18, 3) := decs_at DX3_actHere_0 8 rfl
theorem dX3_actHere_18 : decode cX3_actHere 18 = .ok (.ldc 78, 2) := decs_at DX3_actHere_0 9 rfl
theorem dX3_actHere_20 : decode cX3_actHere 20 = .ok (.invokevirtual 33, 3) := decs_at DX3_actHere_0 10 rfl
theorem dX3_actHere_23 : decode cX3_actHere 23 = .ok (.ifCond .eq 5, 3) := decs_at DX3_actHere_0 11 rfl
theorem dX3_actHere_26 : decode cX3_actHere 26 = .ok (.iconst 1, 1) := decs_at DX3_actHere_0 12 rfl
theorem dX3_actHere_27 : decode cX3_actHere 27 = .ok (.ireturn, 1) := decs_at DX3_actHere_0 13 rfl
theorem dX3_actHere_28 : decode cX3_actHere 28 = .ok (.aload_n 0, 1) := decs_at DX3_actHere_0 14 rfl
theorem dX3_actHere_29 : decode cX3_actHere 29 = .ok (.getfield 18, 3) := decs_at DX3_actHere_0 15 rfl
theorem dX3_actHere_32 : decode cX3_actHere 32 = .ok (.ldc 80, 2) := decs_at DX3_actHere_0 16 rfl
theorem dX3_actHere_34 : decode cX3_actHere 34 = .ok (.invokevirtual 33, 3) := decs_at DX3_actHere_0 17 rfl
theorem dX3_actHere_37 : decode cX3_actHere 37 = .ok (.ifCond .eq 5, 3) := decs_at DX3_actHere_0 18 rfl
theorem dX3_actHere_40 : decode cX3_actHere 40 = .ok (.iconst 2, 1) := decs_at DX3_actHere_0 19 rfl
theorem dX3_actHere_41 : decode cX3_actHere 41 = .ok (.ireturn, 1) := decs_at DX3_actHere_0 20 rfl
theorem dX3_actHere_42 : decode cX3_actHere 42 = .ok (.aload_n 0, 1) := decs_at DX3_actHere_0 21 rfl
theorem dX3_actHere_43 : decode cX3_actHere 43 = .ok (.getfield 18, 3) := decs_at DX3_actHere_0 22 rfl
theorem dX3_actHere_46 : decode cX3_actHere 46 = .ok (.ldc 82, 2) := decs_at DX3_actHere_0 23 rfl
theorem DX3_actHere_24 : decs cX3_actHere [(48, .invokevirtual 33, 3), (51, .ifCond .eq 7, 3), (54, .iconst 3, 1), (55, .goto 4, 3), (58, .iconst (-1), 1), (59, .ireturn, 1)] := by unfold decs; decide +kernel
theorem dX3_actHere_48 : decode cX3_actHere 48 = .ok (.invokevirtual 33, 3) := decs_at DX3_actHere_24 0 rfl
theorem dX3_actHere_51 : decode cX3_actHere 51 = .ok (.ifCond .eq 7, 3) := decs_at DX3_actHere_24 1 rfl
theorem dX3_actHere_54 : decode cX3_actHere 54 = .ok (.iconst 3, 1) := decs_at DX3_actHere_24 2 rfl
theorem dX3_actHere_55 : decode cX3_actHere 55 = .ok (.goto 4, 3) := decs_at DX3_actHere_24 3 rfl
theorem dX3_actHere_58 : decode cX3_actHere 58 = .ok (.iconst (-1), 1) := decs_at DX3_actHere_24 4 rfl
theorem dX3_actHere_59 : decode cX3_actHere 59 = .ok (.ireturn, 1) := decs_at DX3_actHere_24 5 rfl
theorem DX9_readTape_0 : decs cX9_readTape [(0, .aload_n 0, 1), (1, .getfield 12, 3), (4, .invokevirtual 29, 3), (7, .aload_n 0, 1), (8, .iconst (-1), 1), (9, .putfield 18, 3), (12, .aload_n 0, 1), (13, .iconst (-1), 1), (14, .putfield 22, 3), (17, .aload_n 0, 1), (18, .getfield 25, 3), (21, .sipush 700, 3), (24, .invokevirtual 32, 3), (27, .iconst 0, 1), (28, .istore_n 1, 1), (29, .iload_n 1, 1), (30, .sipush 740, 3), (33, .if_icmp .ge 38, 3), (36, .aload_n 0, 1), (37, .getfield 25, 3), (40, .invokevirtual 40, 3), (43, .ifCond .ne 28, 3), (46, .aload_n 0, 1), (47, .invokevirtual 44, 3)] := by unfold decs; decide +kernel
theorem dX9_readTape_0 : decode cX9_readTape 0 = .ok (.aload_n 0, 1) := decs_at DX9_readTape_0 0 rfl
theorem dX9_readTape_1 : decode cX9_readTape 1 = .ok (.getfield 12, 3) := decs_at DX9_readTape_0 1 rfl
theorem dX9_readTape_4 : decode cX9_readTape 4 = .ok (.invokevirtual 29, 3) := decs_at DX9_readTape_0 2 rfl
theorem dX9_readTape_7 : decode cX9_readTape 7 = .ok (.aload_n 0, 1) := decs_at DX9_readTape_0 3 rfl
theorem dX9_readTape_8 : decode cX9_readTape 8 = .ok (.iconst (-1), 1) := decs_at DX9_readTape_0 4 rfl
theorem dX9_readTape_9 : decode cX9_readTape 9 = .ok (.putfield 18, 3) := decs_at DX9_readTape_0 5 rfl
theorem dX9_readTape_12 : decode cX9_readTape 12 = .ok (.aload_n 0, 1) := decs_at DX9_readTape_0 6 rfl
theorem dX9_readTape_13 : decode cX9_readTape 13 = .ok (.iconst (-1), 1) := decs_at DX9_readTape_0 7 rfl
theorem dX9_readTape_14 : decode cX9_readTape 14 = .ok (.putfield 22, 3) := decs_at DX9_readTape_0 8 rfl
theorem dX9_readTape_17 : decode cX9_readTape 17 = .ok (.aload_n 0, 1) := decs_at DX9_readTape_0 9 rfl
theorem dX9_readTape_18 : decode cX9_readTape 18 = .ok (.getfield 25, 3) := decs_at DX9_readTape_0 10 rfl
theorem dX9_readTape_21 : decode cX9_readTape 21 = .ok (.sipush 700, 3) := decs_at DX9_readTape_0 11 rfl
theorem dX9_readTape_24 : decode cX9_readTape 24 = .ok (.invokevirtual 32, 3) := decs_at DX9_readTape_0 12 rfl
theorem dX9_readTape_27 : decode cX9_readTape 27 = .ok (.iconst 0, 1) := decs_at DX9_readTape_0 13 rfl
theorem dX9_readTape_28 : decode cX9_readTape 28 = .ok (.istore_n 1, 1) := decs_at DX9_readTape_0 14 rfl
theorem dX9_readTape_29 : decode cX9_readTape 29 = .ok (.iload_n 1, 1) := decs_at DX9_readTape_0 15 rfl
theorem dX9_readTape_30 : decode cX9_readTape 30 = .ok (.sipush 740, 3) := decs_at DX9_readTape_0 16 rfl
theorem dX9_readTape_33 : decode cX9_readTape 33 = .ok (.if_icmp .ge 38, 3) := decs_at DX9_readTape_0 17 rfl
theorem dX9_readTape_36 : decode cX9_readTape 36 = .ok (.aload_n 0, 1) := decs_at DX9_readTape_0 18 rfl
theorem dX9_readTape_37 : decode cX9_readTape 37 = .ok (.getfield 25, 3) := decs_at DX9_readTape_0 19 rfl
theorem dX9_readTape_40 : decode cX9_readTape 40 = .ok (.invokevirtual 40, 3) := decs_at DX9_readTape_0 20 rfl
theorem dX9_readTape_43 : decode cX9_readTape 43 = .ok (.ifCond .ne 28, 3) := decs_at DX9_readTape_0 21 rfl
theorem dX9_readTape_46 : decode cX9_readTape 46 = .ok (.aload_n 0, 1) := decs_at DX9_readTape_0 22 rfl
theorem dX9_readTape_47 : decode cX9_readTape 47 = .ok (.invokevirtual 44, 3) := decs_at DX9_readTape_0 23 rfl
theorem DX9_readTape_24 : decs cX9_readTape [(50, .ifCond .eq 13, 3), (53, .aload_n 0, 1), (54, .getfield 25, 3), (57, .invokevirtual 47, 3), (60, .ifCond .ne 5, 3), (63, .iconst (-1), 1), (64, .ireturn, 1), (65, .iinc 1 1, 3), (68, .goto (-39), 3), (71, .aload_n 0, 1), (72, .getfield 25, 3), (75, .invokevirtual 50, 3), (78, .ifCond .ne 13, 3), (81, .aload_n 0, 1), (82, .getfield 12, 3), (85, .getfield 53, 3), (88, .ifCond .ne 14, 3), (91, .aload_n 0, 1), (92, .getfield 25, 3), (95, .iconst 1, 1), (96, .invokevirtual 56, 3), (99, .pop, 1), (100, .iconst (-1), 1), (101, .ireturn, 1)] := by unfold decs; decide +kernel
theorem dX9_readTape_50 : decode cX9_readTape 50 = .ok (.ifCond .eq 13, 3) := decs_at DX9_readTape_24 0 rfl
theorem dX9_readTape_53 : decode cX9_readTape 53 = .ok (.aload_n 0, 1) := decs_at DX9_readTape_24 1 rfl
theorem dX9_readTape_54 : decode cX9_readTape 54 = .ok (.getfield 25, 3) := decs_at DX9_readTape_24 2 rfl
theorem dX9_readTape_57 : decode cX9_readTape 57 = .ok (.invokevirtual 47, 3) := decs_at DX9_readTape_24 3 rfl
theorem dX9_readTape_60 : decode cX9_readTape 60 = .ok (.ifCond .ne 5, 3) := decs_at DX9_readTape_24 4 rfl
theorem dX9_readTape_63 : decode cX9_readTape 63 = .ok (.iconst (-1), 1) := decs_at DX9_readTape_24 5 rfl
theorem dX9_readTape_64 : decode cX9_readTape 64 = .ok (.ireturn, 1) := decs_at DX9_readTape_24 6 rfl
theorem dX9_readTape_65 : decode cX9_readTape 65 = .ok (.iinc 1 1, 3) := decs_at DX9_readTape_24 7 rfl
theorem dX9_readTape_68 : decode cX9_readTape 68 = .ok (.goto (-39), 3) := decs_at DX9_readTape_24 8 rfl
theorem dX9_readTape_71 : decode cX9_readTape 71 = .ok (.aload_n 0, 1) := decs_at DX9_readTape_24 9 rfl
theorem dX9_readTape_72 : decode cX9_readTape 72 = .ok (.getfield 25, 3) := decs_at DX9_readTape_24 10 rfl
theorem dX9_readTape_75 : decode cX9_readTape 75 = .ok (.invokevirtual 50, 3) := decs_at DX9_readTape_24 11 rfl
theorem dX9_readTape_78 : decode cX9_readTape 78 = .ok (.ifCond .ne 13, 3) := decs_at DX9_readTape_24 12 rfl
theorem dX9_readTape_81 : decode cX9_readTape 81 = .ok (.aload_n 0, 1) := decs_at DX9_readTape_24 13 rfl
theorem dX9_readTape_82 : decode cX9_readTape 82 = .ok (.getfield 12, 3) := decs_at DX9_readTape_24 14 rfl
theorem dX9_readTape_85 : decode cX9_readTape 85 = .ok (.getfield 53, 3) := decs_at DX9_readTape_24 15 rfl
theorem dX9_readTape_88 : decode cX9_readTape 88 = .ok (.ifCond .ne 14, 3) := decs_at DX9_readTape_24 16 rfl
theorem dX9_readTape_91 : decode cX9_readTape 91 = .ok (.aload_n 0, 1) := decs_at DX9_readTape_24 17 rfl
theorem dX9_readTape_92 : decode cX9_readTape 92 = .ok (.getfield 25, 3) := decs_at DX9_readTape_24 18 rfl
theorem dX9_readTape_95 : decode cX9_readTape 95 = .ok (.iconst 1, 1) := decs_at DX9_readTape_24 19 rfl
theorem dX9_readTape_96 : decode cX9_readTape 96 = .ok (.invokevirtual 56, 3) := decs_at DX9_readTape_24 20 rfl
theorem dX9_readTape_99 : decode cX9_readTape 99 = .ok (.pop, 1) := decs_at DX9_readTape_24 21 rfl
theorem dX9_readTape_100 : decode cX9_readTape 100 = .ok (.iconst (-1), 1) := decs_at DX9_readTape_24 22 rfl
theorem dX9_readTape_101 : decode cX9_readTape 101 = .ok (.ireturn, 1) := decs_at DX9_readTape_24 23 rfl
theorem DX9_readTape_48 : decs cX9_readTape [(102, .aload_n 0, 1), (103, .getfield 12, 3), (106, .aload_n 0, 1), (107, .getfield 18, 3), (110, .iconst (-1), 1), (111, .if_icmp .ne 13, 3), (114, .aload_n 0, 1), (115, .getfield 12, 3), (118, .getfield 60, 3), (121, .goto 7, 3), (124, .aload_n 0, 1), (125, .getfield 18, 3), (128, .putfield 60, 3), (131, .aload_n 0, 1), (132, .getfield 12, 3), (135, .aload_n 0, 1), (136, .getfield 22, 3), (139, .iconst (-1), 1), (140, .if_icmp .ne 13, 3), (143, .aload_n 0, 1), (144, .getfield 12, 3), (147, .getfield 63, 3), (150, .goto 7, 3), (153, .aload_n 0, 1)] := by unfold decs; decide +kernel
theorem dX9_readTape_102 : decode cX9_readTape 102 = .ok (.aload_n 0, 1) := decs_at DX9_readTape_48 0 rfl
theorem dX9_readTape_103 : decode cX9_readTape 103 = .ok (.getfield 12, 3) := decs_at DX9_readTape_48 1 rfl
theorem dX9_readTape_106 : decode cX9_readTape 106 = .ok (.aload_n 0, 1) := decs_at DX9_readTape_48 2 rfl
theorem dX9_readTape_107 : decode cX9_readTape 107 = .ok (.getfield 18, 3) := decs_at DX9_readTape_48 3 rfl
theorem dX9_readTape_110 : decode cX9_readTape 110 = .ok (.iconst (-1), 1) := decs_at DX9_readTape_48 4 rfl
theorem dX9_readTape_111 : decode cX9_readTape 111 = .ok (.if_icmp .ne 13, 3) := decs_at DX9_readTape_48 5 rfl
theorem dX9_readTape_114 : decode cX9_readTape 114 = .ok (.aload_n 0, 1) := decs_at DX9_readTape_48 6 rfl
theorem dX9_readTape_115 : decode cX9_readTape 115 = .ok (.getfield 12, 3) := decs_at DX9_readTape_48 7 rfl
theorem dX9_readTape_118 : decode cX9_readTape 118 = .ok (.getfield 60, 3) := decs_at DX9_readTape_48 8 rfl
theorem dX9_readTape_121 : decode cX9_readTape 121 = .ok (.goto 7, 3) := decs_at DX9_readTape_48 9 rfl
theorem dX9_readTape_124 : decode cX9_readTape 124 = .ok (.aload_n 0, 1) := decs_at DX9_readTape_48 10 rfl
theorem dX9_readTape_125 : decode cX9_readTape 125 = .ok (.getfield 18, 3) := decs_at DX9_readTape_48 11 rfl
theorem dX9_readTape_128 : decode cX9_readTape 128 = .ok (.putfield 60, 3) := decs_at DX9_readTape_48 12 rfl
theorem dX9_readTape_131 : decode cX9_readTape 131 = .ok (.aload_n 0, 1) := decs_at DX9_readTape_48 13 rfl
theorem dX9_readTape_132 : decode cX9_readTape 132 = .ok (.getfield 12, 3) := decs_at DX9_readTape_48 14 rfl
theorem dX9_readTape_135 : decode cX9_readTape 135 = .ok (.aload_n 0, 1) := decs_at DX9_readTape_48 15 rfl
theorem dX9_readTape_136 : decode cX9_readTape 136 = .ok (.getfield 22, 3) := decs_at DX9_readTape_48 16 rfl
theorem dX9_readTape_139 : decode cX9_readTape 139 = .ok (.iconst (-1), 1) := decs_at DX9_readTape_48 17 rfl
theorem dX9_readTape_140 : decode cX9_readTape 140 = .ok (.if_icmp .ne 13, 3) := decs_at DX9_readTape_48 18 rfl
theorem dX9_readTape_143 : decode cX9_readTape 143 = .ok (.aload_n 0, 1) := decs_at DX9_readTape_48 19 rfl
theorem dX9_readTape_144 : decode cX9_readTape 144 = .ok (.getfield 12, 3) := decs_at DX9_readTape_48 20 rfl
theorem dX9_readTape_147 : decode cX9_readTape 147 = .ok (.getfield 63, 3) := decs_at DX9_readTape_48 21 rfl
theorem dX9_readTape_150 : decode cX9_readTape 150 = .ok (.goto 7, 3) := decs_at DX9_readTape_48 22 rfl
theorem dX9_readTape_153 : decode cX9_readTape 153 = .ok (.aload_n 0, 1) := decs_at DX9_readTape_48 23 rfl
theorem DX9_readTape_72 : decs cX9_readTape [(154, .getfield 22, 3), (157, .putfield 63, 3), (160, .iload_n 1, 1), (161, .ireturn, 1)] := by unfold decs; decide +kernel
theorem dX9_readTape_154 : decode cX9_readTape 154 = .ok (.getfield 22, 3) := decs_at DX9_readTape_72 0 rfl
theorem dX9_readTape_157 : decode cX9_readTape 157 = .ok (.putfield 63, 3) := decs_at DX9_readTape_72 1 rfl
theorem dX9_readTape_160 : decode cX9_readTape 160 = .ok (.iload_n 1, 1) := decs_at DX9_readTape_72 2 rfl
theorem dX9_readTape_161 : decode cX9_readTape 161 = .ok (.ireturn, 1) := decs_at DX9_readTape_72 3 rfl
theorem DX9_readLine_0 : decs cX9_readLine [(0, .aload_n 0, 1), (1, .getfield 25, 3), (4, .ldc 66, 2), (6, .invokevirtual 67, 3), (9, .ifCond .eq 35, 3), (12, .aload_n 0, 1), (13, .aload_n 0, 1), (14, .aload_n 0, 1), (15, .getfield 18, 3), (18, .sipush 300, 3), (21, .sipush 900, 3), (24, .invokevirtual 71, 3), (27, .putfield 18, 3), (30, .aload_n 0, 1), (31, .getfield 18, 3), (34, .iconst (-1), 1), (35, .if_icmp .eq 7, 3), (38, .iconst 1, 1), (39, .goto 4, 3), (42, .iconst 0, 1), (43, .ireturn, 1), (44, .aload_n 0, 1), (45, .getfield 25, 3), (48, .ldc 75, 2)] := by unfold decs; decide +kernel
theorem dX9_readLine_0 : decode cX9_readLine 0 = .ok (.aload_n 0, 1) := decs_at DX9_readLine_0 0 rfl
theorem dX9_readLine_1 : decode cX9_readLine 1 = .ok (.getfield 25, 3) := decs_at DX9_readLine_0 1 rfl
theorem dX9_readLine_4 : decode cX9_readLine 4 = .ok (.ldc 66, 2) := decs_at DX9_readLine_0 2 rfl
theorem dX9_readLine_6 : decode cX9_readLine 6 = .ok (.invokevirtual 67, 3) := decs_at DX9_readLine_0 3 rfl
theorem dX9_readLine_9 : decode cX9_readLine 9 = .ok (.ifCond .eq 35, 3) := decs_at DX9_readLine_0 4 rfl
theorem dX9_readLine_12 : decode cX9_readLine 12 = .ok (.aload_n 0, 1) := decs_at DX9_readLine_0 5 rfl
theorem dX9_readLine_13 : decode cX9_readLine 13 = .ok (.aload_n 0, 1) := decs_at DX9_readLine_0 6 rfl
theorem dX9_readLine_14 : decode cX9_readLine 14 = .ok (.aload_n 0, 1) := decs_at DX9_readLine_0 7 rfl
theorem dX9_readLine_15 : decode cX9_readLine 15 = .ok (.getfield 18, 3) := decs_at DX9_readLine_0 8 rfl
theorem dX9_readLine_18 : decode cX9_readLine 18 = .ok (.sipush 300, 3) := decs_at DX9_readLine_0 9 rfl
theorem dX9_readLine_21 : decode cX9_readLine 21 = .ok (.sipush 900, 3) := decs_at DX9_readLine_0 10 rfl
theorem dX9_readLine_24 : decode cX9_readLine 24 = .ok (.invokevirtual 71, 3) := decs_at DX9_readLine_0 11 rfl
theorem dX9_readLine_27 : decode cX9_readLine 27 = .ok (.putfield 18, 3) := decs_at DX9_readLine_0 12 rfl
theorem dX9_readLine_30 : decode cX9_readLine 30 = .ok (.aload_n 0, 1) := decs_at DX9_readLine_0 13 rfl
theorem dX9_readLine_31 : decode cX9_readLine 31 = .ok (.getfield 18, 3) := decs_at DX9_readLine_0 14 rfl
theorem dX9_readLine_34 : decode cX9_readLine 34 = .ok (.iconst (-1), 1) := decs_at DX9_readLine_0 15 rfl
theorem dX9_readLine_35 : decode cX9_readLine 35 = .ok (.if_icmp .eq 7, 3) := decs_at DX9_readLine_0 16 rfl
theorem dX9_readLine_38 : decode cX9_readLine 38 = .ok (.iconst 1, 1) := decs_at DX9_readLine_0 17 rfl
theorem dX9_readLine_39 : decode cX9_readLine 39 = .ok (.goto 4, 3) := decs_at DX9_readLine_0 18 rfl
theorem dX9_readLine_42 : decode cX9_readLine 42 = .ok (.iconst 0, 1) := decs_at DX9_readLine_0 19 rfl
theorem dX9_readLine_43 : decode cX9_readLine 43 = .ok (.ireturn, 1) := decs_at DX9_readLine_0 20 rfl
theorem dX9_readLine_44 : decode cX9_readLine 44 = .ok (.aload_n 0, 1) := decs_at DX9_readLine_0 21 rfl
theorem dX9_readLine_45 : decode cX9_readLine 45 = .ok (.getfield 25, 3) := decs_at DX9_readLine_0 22 rfl
theorem dX9_readLine_48 : decode cX9_readLine 48 = .ok (.ldc 75, 2) := decs_at DX9_readLine_0 23 rfl
theorem DX9_readLine_24 : decs cX9_readLine [(50, .invokevirtual 67, 3), (53, .ifCond .eq 32, 3), (56, .aload_n 0, 1), (57, .aload_n 0, 1), (58, .aload_n 0, 1), (59, .getfield 22, 3), (62, .iconst 1, 1), (63, .bipush 99, 2), (65, .invokevirtual 71, 3), (68, .putfield 22, 3), (71, .aload_n 0, 1), (72, .getfield 22, 3), (75, .iconst (-1), 1), (76, .if_icmp .eq 7, 3), (79, .iconst 1, 1), (80, .goto 4, 3), (83, .iconst 0, 1), (84, .ireturn, 1), (85, .aload_n 0, 1), (86, .getfield 25, 3), (89, .ldc 76, 2), (91, .invokevirtual 67, 3), (94, .ifCond .eq 23, 3), (97, .aload_n 0, 1)] := by unfold decs; decide +kernel
theorem dX9_readLine_50 : decode cX9_readLine 50 = .ok (.invokevirtual 67, 3) := decs_at DX9_readLine_24 0 rfl
theorem dX9_readLine_53 : decode cX9_readLine 53 = .ok (.ifCond .eq 32, 3) := decs_at DX9_readLine_24 1 rfl
theorem dX9_readLine_56 : decode cX9_readLine 56 = .ok (.aload_n 0, 1) := decs_at DX9_readLine_24 2 rfl
theorem dX9_readLine_57 : decode cX9_readLine 57 = .ok (.aload_n 0, 1) := decs_at DX9_readLine_24 3 rfl
theorem dX9_readLine_58 : decode cX9_readLine 58 = .ok (.aload_n 0, 1) := decs_at DX9_readLine_24 4 rfl
theorem dX9_readLine_59 : decode cX9_readLine 59 = .ok (.getfield 22, 3) := decs_at DX9_readLine_24 5 rfl
theorem dX9_readLine_62 : decode cX9_readLine 62 = .ok (.iconst 1, 1) := decs_at DX9_readLine_24 6 rfl
theorem dX9_readLine_63 : decode cX9_readLine 63 = .ok (.bipush 99, 2) := decs_at DX9_readLine_24 7 rfl
theorem dX9_readLine_65 : decode cX9_readLine 65 = .ok (.invokevirtual 71, 3) := decs_at DX9_readLine_24 8 rfl
theorem dX9_readLine_68 : decode cX9_readLine 68 = .ok (.putfield 22, 3) := decs_at DX9_readLine_24 9 rfl
theorem dX9_readLine_71 : decode cX9_readLine 71 = .ok (.aload_n 0, 1) := decs_at DX9_readLine_24 10 rfl
theorem dX9_readLine_72 : decode cX9_readLine 72 = .ok (.getfield 22, 3) := decs_at DX9_readLine_24 11 rfl
theorem dX9_readLine_75 : decode cX9_readLine 75 = .ok (.iconst (-1), 1) := decs_at DX9_readLine_24 12 rfl
theorem dX9_readLine_76 : decode cX9_readLine 76 = .ok (.if_icmp .eq 7, 3) := decs_at DX9_readLine_24 13 rfl
theorem dX9_readLine_79 : decode cX9_readLine 79 = .ok (.iconst 1, 1) := decs_at DX9_readLine_24 14 rfl
theorem dX9_readLine_80 : decode cX9_readLine 80 = .ok (.goto 4, 3) := decs_at DX9_readLine_24 15 rfl
theorem dX9_readLine_83 : decode cX9_readLine 83 = .ok (.iconst 0, 1) := decs_at DX9_readLine_24 16 rfl
theorem dX9_readLine_84 : decode cX9_readLine 84 = .ok (.ireturn, 1) := decs_at DX9_readLine_24 17 rfl
theorem dX9_readLine_85 : decode cX9_readLine 85 = .ok (.aload_n 0, 1) := decs_at DX9_readLine_24 18 rfl
theorem dX9_readLine_86 : decode cX9_readLine 86 = .ok (.getfield 25, 3) := decs_at DX9_readLine_24 19 rfl
theorem dX9_readLine_89 : decode cX9_readLine 89 = .ok (.ldc 76, 2) := decs_at DX9_readLine_24 20 rfl
theorem dX9_readLine_91 : decode cX9_readLine 91 = .ok (.invokevirtual 67, 3) := decs_at DX9_readLine_24 21 rfl
theorem dX9_readLine_94 : decode cX9_readLine 94 = .ok (.ifCond .eq 23, 3) := decs_at DX9_readLine_24 22 rfl
theorem dX9_readLine_97 : decode cX9_readLine 97 = .ok (.aload_n 0, 1) := decs_at DX9_readLine_24 23 rfl
theorem DX9_readLine_48 : decs cX9_readLine [(98, .invokevirtual 78, 3), (101, .ifCond .eq 14, 3), (104, .aload_n 0, 1), (105, .invokevirtual 81, 3), (108, .ifCond .eq 7, 3), (111, .iconst 1, 1), (112, .goto 4, 3), (115, .iconst 0, 1), (116, .ireturn, 1), (117, .aload_n 0, 1), (118, .getfield 25, 3), (121, .iconst 1, 1), (122, .invokevirtual 56, 3), (125, .ireturn, 1)] := by unfold decs; decide +kernel
theorem dX9_readLine_98 : decode cX9_readLine 98 = .ok (.invokevirtual 78, 3) := decs_at DX9_readLine_48 0 rfl
theorem dX9_readLine_101 : decode cX9_readLine 101 = .ok (.ifCond .eq 14, 3) := decs_at DX9_readLine_48 1 rfl
theorem dX9_readLine_104 : decode cX9_readLine 104 = .ok (.aload_n 0, 1) := decs_at DX9_readLine_48 2 rfl
theorem dX9_readLine_105 : decode cX9_readLine 105 = .ok (.invokevirtual 81, 3) := decs_at DX9_readLine_48 3 rfl
theorem dX9_readLine_108 : decode cX9_readLine 108 = .ok (.ifCond .eq 7, 3) := decs_at DX9_readLine_48 4 rfl
theorem dX9_readLine_111 : decode cX9_readLine 111 = .ok (.iconst 1, 1) := decs_at DX9_readLine_48 5 rfl
theorem dX9_readLine_112 : decode cX9_readLine 112 = .ok (.goto 4, 3) := decs_at DX9_readLine_48 6 rfl
theorem dX9_readLine_115 : decode cX9_readLine 115 = .ok (.iconst 0, 1) := decs_at DX9_readLine_48 7 rfl
theorem dX9_readLine_116 : decode cX9_readLine 116 = .ok (.ireturn, 1) := decs_at DX9_readLine_48 8 rfl
theorem dX9_readLine_117 : decode cX9_readLine 117 = .ok (.aload_n 0, 1) := decs_at DX9_readLine_48 9 rfl
theorem dX9_readLine_118 : decode cX9_readLine 118 = .ok (.getfield 25, 3) := decs_at DX9_readLine_48 10 rfl
theorem dX9_readLine_121 : decode cX9_readLine 121 = .ok (.iconst 1, 1) := decs_at DX9_readLine_48 11 rfl
theorem dX9_readLine_122 : decode cX9_readLine 122 = .ok (.invokevirtual 56, 3) := decs_at DX9_readLine_48 12 rfl
theorem dX9_readLine_125 : decode cX9_readLine 125 = .ok (.ireturn, 1) := decs_at DX9_readLine_48 13 rfl
theorem DX9_takeOnce_0 : decs cX9_takeOnce [(0, .iload_n 1, 1), (1, .iconst (-1), 1), (2, .if_icmp .eq 14, 3), (5, .aload_n 0, 1), (6, .getfield 25, 3), (9, .iconst 3, 1), (10, .invokevirtual 56, 3), (13, .pop, 1), (14, .iconst (-1), 1), (15, .ireturn, 1), (16, .aload_n 0, 1), (17, .getfield 25, 3), (20, .invokevirtual 84, 3), (23, .aload_n 0, 1), (24, .getfield 25, 3), (27, .iload_n 2, 1), (28, .iload_n 3, 1), (29, .invokevirtual 87, 3), (32, .ireturn, 1)] := by unfold decs; decide +kernel
theorem dX9_takeOnce_0 : decode cX9_takeOnce 0 = .ok (.iload_n 1, 1) := decs_at DX9_takeOnce_0 0 rfl
theorem dX9_takeOnce_1 : decode cX9_takeOnce 1 = .ok (.iconst (-1), 1) := decs_at DX9_takeOnce_0 1 rfl
theorem dX9_takeOnce_2 : decode cX9_takeOnce 2 = .ok (.if_icmp .eq 14, 3) := decs_at DX9_takeOnce_0 2 rfl
theorem dX9_takeOnce_5 : decode cX9_takeOnce 5 = .ok (.aload_n 0, 1) := decs_at DX9_takeOnce_0 3 rfl
theorem dX9_takeOnce_6 : decode cX9_takeOnce 6 = .ok (.getfield 25, 3) := decs_at DX9_takeOnce_0 4 rfl
theorem dX9_takeOnce_9 : decode cX9_takeOnce 9 = .ok (.iconst 3, 1) := decs_at DX9_takeOnce_0 5 rfl
theorem dX9_takeOnce_10 : decode cX9_takeOnce 10 = .ok (.invokevirtual 56, 3) := decs_at DX9_takeOnce_0 6 rfl
theorem dX9_takeOnce_13 : decode cX9_takeOnce 13 = .ok (.pop, 1) := decs_at DX9_takeOnce_0 7 rfl
theorem dX9_takeOnce_14 : decode cX9_takeOnce 14 = .ok (.iconst (-1), 1) := decs_at DX9_takeOnce_0 8 rfl
theorem dX9_takeOnce_15 : decode cX9_takeOnce 15 = .ok (.ireturn, 1) := decs_at DX9_takeOnce_0 9 rfl
theorem dX9_takeOnce_16 : decode cX9_takeOnce 16 = .ok (.aload_n 0, 1) := decs_at DX9_takeOnce_0 10 rfl
theorem dX9_takeOnce_17 : decode cX9_takeOnce 17 = .ok (.getfield 25, 3) := decs_at DX9_takeOnce_0 11 rfl
theorem dX9_takeOnce_20 : decode cX9_takeOnce 20 = .ok (.invokevirtual 84, 3) := decs_at DX9_takeOnce_0 12 rfl
theorem dX9_takeOnce_23 : decode cX9_takeOnce 23 = .ok (.aload_n 0, 1) := decs_at DX9_takeOnce_0 13 rfl
theorem dX9_takeOnce_24 : decode cX9_takeOnce 24 = .ok (.getfield 25, 3) := decs_at DX9_takeOnce_0 14 rfl
theorem dX9_takeOnce_27 : decode cX9_takeOnce 27 = .ok (.iload_n 2, 1) := decs_at DX9_takeOnce_0 15 rfl
theorem dX9_takeOnce_28 : decode cX9_takeOnce 28 = .ok (.iload_n 3, 1) := decs_at DX9_takeOnce_0 16 rfl
theorem dX9_takeOnce_29 : decode cX9_takeOnce 29 = .ok (.invokevirtual 87, 3) := decs_at DX9_takeOnce_0 17 rfl
theorem dX9_takeOnce_32 : decode cX9_takeOnce 32 = .ok (.ireturn, 1) := decs_at DX9_takeOnce_0 18 rfl
theorem DX9_readCar_0 : decs cX9_readCar [(0, .aload_n 0, 1), (1, .getfield 12, 3), (4, .getfield 53, 3), (7, .bipush 16, 2), (9, .if_icmp .lt 12, 3), (12, .aload_n 0, 1), (13, .getfield 25, 3), (16, .iconst 4, 1), (17, .invokevirtual 56, 3), (20, .ireturn, 1), (21, .aload_n 0, 1), (22, .getfield 25, 3), (25, .invokevirtual 84, 3), (28, .aload_n 0, 1), (29, .invokevirtual 91, 3), (32, .istore_n 1, 1), (33, .iload_n 1, 1), (34, .iconst (-1), 1), (35, .if_icmp .ne 12, 3), (38, .aload_n 0, 1), (39, .getfield 25, 3), (42, .iconst 1, 1), (43, .invokevirtual 56, 3), (46, .ireturn, 1)] := by unfold decs; decide +kernel
theorem dX9_readCar_0 : decode cX9_readCar 0 = .ok (.aload_n 0, 1) := decs_at DX9_readCar_0 0 rfl
theorem dX9_readCar_1 : decode cX9_readCar 1 = .ok (.getfield 12, 3) := decs_at DX9_readCar_0 1 rfl
theorem dX9_readCar_4 : decode cX9_readCar 4 = .ok (.getfield 53, 3) := decs_at DX9_readCar_0 2 rfl
theorem dX9_readCar_7 : decode cX9_readCar 7 = .ok (.bipush 16, 2) := decs_at DX9_readCar_0 3 rfl
theorem dX9_readCar_9 : decode cX9_readCar 9 = .ok (.if_icmp .lt 12, 3) := decs_at DX9_readCar_0 4 rfl
theorem dX9_readCar_12 : decode cX9_readCar 12 = .ok (.aload_n 0, 1) := decs_at DX9_readCar_0 5 rfl
theorem dX9_readCar_13 : decode cX9_readCar 13 = .ok (.getfield 25, 3) := decs_at DX9_readCar_0 6 rfl
theorem dX9_readCar_16 : decode cX9_readCar 16 = .ok (.iconst 4, 1) := decs_at DX9_readCar_0 7 rfl
theorem dX9_readCar_17 : decode cX9_readCar 17 = .ok (.invokevirtual 56, 3) := decs_at DX9_readCar_0 8 rfl
theorem dX9_readCar_20 : decode cX9_readCar 20 = .ok (.ireturn, 1) := decs_at DX9_readCar_0 9 rfl
theorem dX9_readCar_21 : decode cX9_readCar 21 = .ok (.aload_n 0, 1) := decs_at DX9_readCar_0 10 rfl
theorem dX9_readCar_22 : decode cX9_readCar 22 = .ok (.getfield 25, 3) := decs_at DX9_readCar_0 11 rfl
theorem dX9_readCar_25 : decode cX9_readCar 25 = .ok (.invokevirtual 84, 3) := decs_at DX9_readCar_0 12 rfl
theorem dX9_readCar_28 : decode cX9_readCar 28 = .ok (.aload_n 0, 1) := decs_at DX9_readCar_0 13 rfl
theorem dX9_readCar_29 : decode cX9_readCar 29 = .ok (.invokevirtual 91, 3) := decs_at DX9_readCar_0 14 rfl
theorem dX9_readCar_32 : decode cX9_readCar 32 = .ok (.istore_n 1, 1) := decs_at DX9_readCar_0 15 rfl
theorem dX9_readCar_33 : decode cX9_readCar 33 = .ok (.iload_n 1, 1) := decs_at DX9_readCar_0 16 rfl
theorem dX9_readCar_34 : decode cX9_readCar 34 = .ok (.iconst (-1), 1) := decs_at DX9_readCar_0 17 rfl
theorem dX9_readCar_35 : decode cX9_readCar 35 = .ok (.if_icmp .ne 12, 3) := decs_at DX9_readCar_0 18 rfl
theorem dX9_readCar_38 : decode cX9_readCar 38 = .ok (.aload_n 0, 1) := decs_at DX9_readCar_0 19 rfl
theorem dX9_readCar_39 : decode cX9_readCar 39 = .ok (.getfield 25, 3) := decs_at DX9_readCar_0 20 rfl
theorem dX9_readCar_42 : decode cX9_readCar 42 = .ok (.iconst 1, 1) := decs_at DX9_readCar_0 21 rfl
theorem dX9_readCar_43 : decode cX9_readCar 43 = .ok (.invokevirtual 56, 3) := decs_at DX9_readCar_0 22 rfl
theorem dX9_readCar_46 : decode cX9_readCar 46 = .ok (.ireturn, 1) := decs_at DX9_readCar_0 23 rfl
theorem DX9_readCar_24 : decs cX9_readCar [(47, .aload_n 0, 1), (48, .getfield 25, 3), (51, .invokevirtual 84, 3), (54, .aload_n 0, 1), (55, .getfield 25, 3), (58, .bipush 10, 2), (60, .bipush 99, 2), (62, .invokevirtual 87, 3), (65, .istore_n 2, 1), (66, .iload_n 2, 1), (67, .iconst (-1), 1), (68, .if_icmp .ne 5, 3), (71, .iconst 0, 1), (72, .ireturn, 1), (73, .aload_n 0, 1), (74, .getfield 12, 3), (77, .iload_n 1, 1), (78, .iload_n 2, 1), (79, .invokevirtual 95, 3), (82, .iconst 1, 1), (83, .ireturn, 1)] := by unfold decs; decide +kernel
theorem dX9_readCar_47 : decode cX9_readCar 47 = .ok (.aload_n 0, 1) := decs_at DX9_readCar_24 0 rfl
theorem dX9_readCar_48 : decode cX9_readCar 48 = .ok (.getfield 25, 3) := decs_at DX9_readCar_24 1 rfl
theorem dX9_readCar_51 : decode cX9_readCar 51 = .ok (.invokevirtual 84, 3) := decs_at DX9_readCar_24 2 rfl
theorem dX9_readCar_54 : decode cX9_readCar 54 = .ok (.aload_n 0, 1) := decs_at DX9_readCar_24 3 rfl
theorem dX9_readCar_55 : decode cX9_readCar 55 = .ok (.getfield 25, 3) := decs_at DX9_readCar_24 4 rfl
theorem dX9_readCar_58 : decode cX9_readCar 58 = .ok (.bipush 10, 2) := decs_at DX9_readCar_24 5 rfl
theorem dX9_readCar_60 : decode cX9_readCar 60 = .ok (.bipush 99, 2) := decs_at DX9_readCar_24 6 rfl
theorem dX9_readCar_62 : decode cX9_readCar 62 = .ok (.invokevirtual 87, 3) := decs_at DX9_readCar_24 7 rfl
theorem dX9_readCar_65 : decode cX9_readCar 65 = .ok (.istore_n 2, 1) := decs_at DX9_readCar_24 8 rfl
theorem dX9_readCar_66 : decode cX9_readCar 66 = .ok (.iload_n 2, 1) := decs_at DX9_readCar_24 9 rfl
theorem dX9_readCar_67 : decode cX9_readCar 67 = .ok (.iconst (-1), 1) := decs_at DX9_readCar_24 10 rfl
theorem dX9_readCar_68 : decode cX9_readCar 68 = .ok (.if_icmp .ne 5, 3) := decs_at DX9_readCar_24 11 rfl
theorem dX9_readCar_71 : decode cX9_readCar 71 = .ok (.iconst 0, 1) := decs_at DX9_readCar_24 12 rfl
theorem dX9_readCar_72 : decode cX9_readCar 72 = .ok (.ireturn, 1) := decs_at DX9_readCar_24 13 rfl
theorem dX9_readCar_73 : decode cX9_readCar 73 = .ok (.aload_n 0, 1) := decs_at DX9_readCar_24 14 rfl
theorem dX9_readCar_74 : decode cX9_readCar 74 = .ok (.getfield 12, 3) := decs_at DX9_readCar_24 15 rfl
theorem dX9_readCar_77 : decode cX9_readCar 77 = .ok (.iload_n 1, 1) := decs_at DX9_readCar_24 16 rfl
theorem dX9_readCar_78 : decode cX9_readCar 78 = .ok (.iload_n 2, 1) := decs_at DX9_readCar_24 17 rfl
theorem dX9_readCar_79 : decode cX9_readCar 79 = .ok (.invokevirtual 95, 3) := decs_at DX9_readCar_24 18 rfl
theorem dX9_readCar_82 : decode cX9_readCar 82 = .ok (.iconst 1, 1) := decs_at DX9_readCar_24 19 rfl
theorem dX9_readCar_83 : decode cX9_readCar 83 = .ok (.ireturn, 1) := decs_at DX9_readCar_24 20 rfl
theorem DX9_readOptions_0 : decs cX9_readOptions [(0, .iconst 0, 1), (1, .istore_n 1, 1), (2, .iconst 0, 1), (3, .istore_n 2, 1), (4, .iload_n 2, 1), (5, .iconst 5, 1), (6, .if_icmp .gt 113, 3), (9, .aload_n 0, 1), (10, .invokevirtual 99, 3), (13, .istore_n 3, 1), (14, .iload_n 3, 1), (15, .iconst (-1), 1), (16, .if_icmp .ne 5, 3), (19, .iconst 1, 1), (20, .ireturn, 1), (21, .iload_n 1, 1), (22, .iload_n 3, 1), (23, .ishr, 1), (24, .iconst 1, 1), (25, .iand, 1), (26, .iconst 1, 1), (27, .if_icmp .ne 12, 3), (30, .aload_n 0, 1), (31, .getfield 25, 3)] := by unfold decs; decide +kernel
theorem dX9_readOptions_0 : decode cX9_readOptions 0 = .ok (.iconst 0, 1) := decs_at DX9_readOptions_0 0 rfl
theorem dX9_readOptions_1 : decode cX9_readOptions 1 = .ok (.istore_n 1, 1) := decs_at DX9_readOptions_0 1 rfl
theorem dX9_readOptions_2 : decode cX9_readOptions 2 = .ok (.iconst 0, 1) := decs_at DX9_readOptions_0 2 rfl
theorem dX9_readOptions_3 : decode cX9_readOptions 3 = .ok (.istore_n 2, 1) := decs_at DX9_readOptions_0 3 rfl
theorem dX9_readOptions_4 : decode cX9_readOptions 4 = .ok (.iload_n 2, 1) := decs_at DX9_readOptions_0 4 rfl
theorem dX9_readOptions_5 : decode cX9_readOptions 5 = .ok (.iconst 5, 1) := decs_at DX9_readOptions_0 5 rfl
theorem dX9_readOptions_6 : decode cX9_readOptions 6 = .ok (.if_icmp .gt 113, 3) := decs_at DX9_readOptions_0 6 rfl
theorem dX9_readOptions_9 : decode cX9_readOptions 9 = .ok (.aload_n 0, 1) := decs_at DX9_readOptions_0 7 rfl
theorem dX9_readOptions_10 : decode cX9_readOptions 10 = .ok (.invokevirtual 99, 3) := decs_at DX9_readOptions_0 8 rfl
theorem dX9_readOptions_13 : decode cX9_readOptions 13 = .ok (.istore_n 3, 1) := decs_at DX9_readOptions_0 9 rfl
theorem dX9_readOptions_14 : decode cX9_readOptions 14 = .ok (.iload_n 3, 1) := decs_at DX9_readOptions_0 10 rfl
theorem dX9_readOptions_15 : decode cX9_readOptions 15 = .ok (.iconst (-1), 1) := decs_at DX9_readOptions_0 11 rfl
theorem dX9_readOptions_16 : decode cX9_readOptions 16 = .ok (.if_icmp .ne 5, 3) := decs_at DX9_readOptions_0 12 rfl
theorem dX9_readOptions_19 : decode cX9_readOptions 19 = .ok (.iconst 1, 1) := decs_at DX9_readOptions_0 13 rfl
theorem dX9_readOptions_20 : decode cX9_readOptions 20 = .ok (.ireturn, 1) := decs_at DX9_readOptions_0 14 rfl
theorem dX9_readOptions_21 : decode cX9_readOptions 21 = .ok (.iload_n 1, 1) := decs_at DX9_readOptions_0 15 rfl
theorem dX9_readOptions_22 : decode cX9_readOptions 22 = .ok (.iload_n 3, 1) := decs_at DX9_readOptions_0 16 rfl
theorem dX9_readOptions_23 : decode cX9_readOptions 23 = .ok (.ishr, 1) := decs_at DX9_readOptions_0 17 rfl
theorem dX9_readOptions_24 : decode cX9_readOptions 24 = .ok (.iconst 1, 1) := decs_at DX9_readOptions_0 18 rfl
theorem dX9_readOptions_25 : decode cX9_readOptions 25 = .ok (.iand, 1) := decs_at DX9_readOptions_0 19 rfl
theorem dX9_readOptions_26 : decode cX9_readOptions 26 = .ok (.iconst 1, 1) := decs_at DX9_readOptions_0 20 rfl
theorem dX9_readOptions_27 : decode cX9_readOptions 27 = .ok (.if_icmp .ne 12, 3) := decs_at DX9_readOptions_0 21 rfl
theorem dX9_readOptions_30 : decode cX9_readOptions 30 = .ok (.aload_n 0, 1) := decs_at DX9_readOptions_0 22 rfl
theorem dX9_readOptions_31 : decode cX9_readOptions 31 = .ok (.getfield 25, 3) := decs_at DX9_readOptions_0 23 rfl
theorem DX9_readOptions_24 : decs cX9_readOptions [(34, .iconst 3, 1), (35, .invokevirtual 56, 3), (38, .ireturn, 1), (39, .iload_n 1, 1), (40, .iconst 1, 1), (41, .iload_n 3, 1), (42, .ishl, 1), (43, .ior, 1), (44, .istore_n 1, 1), (45, .aload_n 0, 1), (46, .getfield 25, 3), (49, .invokevirtual 84, 3), (52, .iload_n 3, 1), (53, .iconst 2, 1), (54, .if_icmp .ne 7, 3), (57, .iconst 1, 1), (58, .goto 28, 3), (61, .iload_n 3, 1), (62, .bipush 6, 2), (64, .if_icmp .ne 10, 3), (67, .aload_n 0, 1), (68, .invokevirtual 102, 3), (71, .goto 15, 3), (74, .aload_n 0, 1)] := by unfold decs; decide +kernel
theorem dX9_readOptions_34 : decode cX9_readOptions 34 = .ok (.iconst 3, 1) := decs_at DX9_readOptions_24 0 rfl
theorem dX9_readOptions_35 : decode cX9_readOptions 35 = .ok (.invokevirtual 56, 3) := decs_at DX9_readOptions_24 1 rfl
theorem dX9_readOptions_38 : decode cX9_readOptions 38 = .ok (.ireturn, 1) := decs_at DX9_readOptions_24 2 rfl
theorem dX9_readOptions_39 : decode cX9_readOptions 39 = .ok (.iload_n 1, 1) := decs_at DX9_readOptions_24 3 rfl
theorem dX9_readOptions_40 : decode cX9_readOptions 40 = .ok (.iconst 1, 1) := decs_at DX9_readOptions_24 4 rfl
theorem dX9_readOptions_41 : decode cX9_readOptions 41 = .ok (.iload_n 3, 1) := decs_at DX9_readOptions_24 5 rfl
theorem dX9_readOptions_42 : decode cX9_readOptions 42 = .ok (.ishl, 1) := decs_at DX9_readOptions_24 6 rfl
theorem dX9_readOptions_43 : decode cX9_readOptions 43 = .ok (.ior, 1) := decs_at DX9_readOptions_24 7 rfl
theorem dX9_readOptions_44 : decode cX9_readOptions 44 = .ok (.istore_n 1, 1) := decs_at DX9_readOptions_24 8 rfl
theorem dX9_readOptions_45 : decode cX9_readOptions 45 = .ok (.aload_n 0, 1) := decs_at DX9_readOptions_24 9 rfl
theorem dX9_readOptions_46 : decode cX9_readOptions 46 = .ok (.getfield 25, 3) := decs_at DX9_readOptions_24 10 rfl
theorem dX9_readOptions_49 : decode cX9_readOptions 49 = .ok (.invokevirtual 84, 3) := decs_at DX9_readOptions_24 11 rfl
theorem dX9_readOptions_52 : decode cX9_readOptions 52 = .ok (.iload_n 3, 1) := decs_at DX9_readOptions_24 12 rfl
theorem dX9_readOptions_53 : decode cX9_readOptions 53 = .ok (.iconst 2, 1) := decs_at DX9_readOptions_24 13 rfl
theorem dX9_readOptions_54 : decode cX9_readOptions 54 = .ok (.if_icmp .ne 7, 3) := decs_at DX9_readOptions_24 14 rfl
theorem dX9_readOptions_57 : decode cX9_readOptions 57 = .ok (.iconst 1, 1) := decs_at DX9_readOptions_24 15 rfl
theorem dX9_readOptions_58 : decode cX9_readOptions 58 = .ok (.goto 28, 3) := decs_at DX9_readOptions_24 16 rfl
theorem dX9_readOptions_61 : decode cX9_readOptions 61 = .ok (.iload_n 3, 1) := decs_at DX9_readOptions_24 17 rfl
theorem dX9_readOptions_62 : decode cX9_readOptions 62 = .ok (.bipush 6, 2) := decs_at DX9_readOptions_24 18 rfl
theorem dX9_readOptions_64 : decode cX9_readOptions 64 = .ok (.if_icmp .ne 10, 3) := decs_at DX9_readOptions_24 19 rfl
theorem dX9_readOptions_67 : decode cX9_readOptions 67 = .ok (.aload_n 0, 1) := decs_at DX9_readOptions_24 20 rfl
theorem dX9_readOptions_68 : decode cX9_readOptions 68 = .ok (.invokevirtual 102, 3) := decs_at DX9_readOptions_24 21 rfl
theorem dX9_readOptions_71 : decode cX9_readOptions 71 = .ok (.goto 15, 3) := decs_at DX9_readOptions_24 22 rfl
theorem dX9_readOptions_74 : decode cX9_readOptions 74 = .ok (.aload_n 0, 1) := decs_at DX9_readOptions_24 23 rfl
theorem DX9_readOptions_48 : decs cX9_readOptions [(75, .getfield 25, 3), (78, .iconst 0, 1), (79, .iload_n 3, 1), (80, .invokestatic 105, 3), (83, .invokevirtual 87, 3), (86, .istore 4, 2), (88, .iload 4, 2), (90, .iconst (-1), 1), (91, .if_icmp .ne 5, 3), (94, .iconst 0, 1), (95, .ireturn, 1), (96, .aload_n 0, 1), (97, .getfield 12, 3), (100, .aload_n 0, 1), (101, .getfield 12, 3), (104, .getfield 53, 3), (107, .iload_n 3, 1), (108, .iload 4, 2), (110, .invokevirtual 109, 3), (113, .iinc 2 1, 3), (116, .goto (-112), 3), (119, .aload_n 0, 1), (120, .getfield 25, 3), (123, .iconst 3, 1)] := by unfold decs; decide +kernel
theorem dX9_readOptions_75 : decode cX9_readOptions 75 = .ok (.getfield 25, 3) := decs_at DX9_readOptions_48 0 rfl
theorem dX9_readOptions_78 : decode cX9_readOptions 78 = .ok (.iconst 0, 1) := decs_at DX9_readOptions_48 1 rfl
theorem dX9_readOptions_79 : decode cX9_readOptions 79 = .ok (.iload_n 3, 1) := decs_at DX9_readOptions_48 2 rfl
theorem dX9_readOptions_80 : decode cX9_readOptions 80 = .ok (.invokestatic 105, 3) := decs_at DX9_readOptions_48 3 rfl
theorem dX9_readOptions_83 : decode cX9_readOptions 83 = .ok (.invokevirtual 87, 3) := decs_at DX9_readOptions_48 4 rfl
theorem dX9_readOptions_86 : decode cX9_readOptions 86 = .ok (.istore 4, 2) := decs_at DX9_readOptions_48 5 rfl
theorem dX9_readOptions_88 : decode cX9_readOptions 88 = .ok (.iload 4, 2) := decs_at DX9_readOptions_48 6 rfl
theorem dX9_readOptions_90 : decode cX9_readOptions 90 = .ok (.iconst (-1), 1) := decs_at DX9_readOptions_48 7 rfl
theorem dX9_readOptions_91 : decode cX9_readOptions 91 = .ok (.if_icmp .ne 5, 3) := decs_at DX9_readOptions_48 8 rfl
theorem dX9_readOptions_94 : decode cX9_readOptions 94 = .ok (.iconst 0, 1) := decs_at DX9_readOptions_48 9 rfl
theorem dX9_readOptions_95 : decode cX9_readOptions 95 = .ok (.ireturn, 1) := decs_at DX9_readOptions_48 10 rfl
theorem dX9_readOptions_96 : decode cX9_readOptions 96 = .ok (.aload_n 0, 1) := decs_at DX9_readOptions_48 11 rfl
theorem dX9_readOptions_97 : decode cX9_readOptions 97 = .ok (.getfield 12, 3) := decs_at DX9_readOptions_48 12 rfl
theorem dX9_readOptions_100 : decode cX9_readOptions 100 = .ok (.aload_n 0, 1) := decs_at DX9_readOptions_48 13 rfl
theorem dX9_readOptions_101 : decode cX9_readOptions 101 = .ok (.getfield 12, 3) := decs_at DX9_readOptions_48 14 rfl
theorem dX9_readOptions_104 : decode cX9_readOptions 104 = .ok (.getfield 53, 3) := decs_at DX9_readOptions_48 15 rfl
theorem dX9_readOptions_107 : decode cX9_readOptions 107 = .ok (.iload_n 3, 1) := decs_at DX9_readOptions_48 16 rfl
theorem dX9_readOptions_108 : decode cX9_readOptions 108 = .ok (.iload 4, 2) := decs_at DX9_readOptions_48 17 rfl
theorem dX9_readOptions_110 : decode cX9_readOptions 110 = .ok (.invokevirtual 109, 3) := decs_at DX9_readOptions_48 18 rfl
theorem dX9_readOptions_113 : decode cX9_readOptions 113 = .ok (.iinc 2 1, 3) := decs_at DX9_readOptions_48 19 rfl
theorem dX9_readOptions_116 : decode cX9_readOptions 116 = .ok (.goto (-112), 3) := decs_at DX9_readOptions_48 20 rfl
theorem dX9_readOptions_119 : decode cX9_readOptions 119 = .ok (.aload_n 0, 1) := decs_at DX9_readOptions_48 21 rfl
theorem dX9_readOptions_120 : decode cX9_readOptions 120 = .ok (.getfield 25, 3) := decs_at DX9_readOptions_48 22 rfl
theorem dX9_readOptions_123 : decode cX9_readOptions 123 = .ok (.iconst 3, 1) := decs_at DX9_readOptions_48 23 rfl
theorem DX9_readOptions_72 : decs cX9_readOptions [(124, .invokevirtual 56, 3), (127, .ireturn, 1)] := by unfold decs; decide +kernel
theorem dX9_readOptions_124 : decode cX9_readOptions 124 = .ok (.invokevirtual 56, 3) := decs_at DX9_readOptions_72 0 rfl
theorem dX9_readOptions_127 : decode cX9_readOptions 127 = .ok (.ireturn, 1) := decs_at DX9_readOptions_72 1 rfl
theorem DX9_kindHere_0 : decs cX9_kindHere [(0, .aload_n 0, 1), (1, .getfield 25, 3), (4, .ldc 113, 2), (6, .invokevirtual 67, 3), (9, .ifCond .eq 5, 3), (12, .iconst 0, 1), (13, .ireturn, 1), (14, .aload_n 0, 1), (15, .getfield 25, 3), (18, .ldc 115, 2), (20, .invokevirtual 67, 3), (23, .ifCond .eq 5, 3), (26, .iconst 1, 1), (27, .ireturn, 1), (28, .aload_n 0, 1), (29, .getfield 25, 3), (32, .ldc 117, 2), (34, .invokevirtual 67, 3), (37, .ifCond .eq 7, 3), (40, .iconst 2, 1), (41, .goto 4, 3), (44, .iconst (-1), 1), (45, .ireturn, 1)] := by unfold decs; decide +kernel
theorem dX9_kindHere_0 : decode cX9_kindHere 0 = .ok (.aload_n 0, 1) := decs_at DX9_kindHere_0 0 rfl
theorem dX9_kindHere_1 : decode cX9_kindHere 1 = .ok (.getfield 25, 3) := decs_at DX9_kindHere_0 1 rfl
theorem dX9_kindHere_4 : decode cX9_kindHere 4 = .ok (.ldc 113, 2) := decs_at DX9_kindHere_0 2 rfl
theorem dX9_kindHere_6 : decode cX9_kindHere 6 = .ok (.invokevirtual 67, 3) := decs_at DX9_kindHere_0 3 rfl
theorem dX9_kindHere_9 : decode cX9_kindHere 9 = .ok (.ifCond .eq 5, 3) := decs_at DX9_kindHere_0 4 rfl
theorem dX9_kindHere_12 : decode cX9_kindHere 12 = .ok (.iconst 0, 1) := decs_at DX9_kindHere_0 5 rfl
theorem dX9_kindHere_13 : decode cX9_kindHere 13 = .ok (.ireturn, 1) := decs_at DX9_kindHere_0 6 rfl
theorem dX9_kindHere_14 : decode cX9_kindHere 14 = .ok (.aload_n 0, 1) := decs_at DX9_kindHere_0 7 rfl
theorem dX9_kindHere_15 : decode cX9_kindHere 15 = .ok (.getfield 25, 3) := decs_at DX9_kindHere_0 8 rfl
theorem dX9_kindHere_18 : decode cX9_kindHere 18 = .ok (.ldc 115, 2) := decs_at DX9_kindHere_0 9 rfl
theorem dX9_kindHere_20 : decode cX9_kindHere 20 = .ok (.invokevirtual 67, 3) := decs_at DX9_kindHere_0 10 rfl
theorem dX9_kindHere_23 : decode cX9_kindHere 23 = .ok (.ifCond .eq 5, 3) := decs_at DX9_kindHere_0 11 rfl
theorem dX9_kindHere_26 : decode cX9_kindHere 26 = .ok (.iconst 1, 1) := decs_at DX9_kindHere_0 12 rfl
theorem dX9_kindHere_27 : decode cX9_kindHere 27 = .ok (.ireturn, 1) := decs_at DX9_kindHere_0 13 rfl
theorem dX9_kindHere_28 : decode cX9_kindHere 28 = .ok (.aload_n 0, 1) := decs_at DX9_kindHere_0 14 rfl
theorem dX9_kindHere_29 : decode cX9_kindHere 29 = .ok (.getfield 25, 3) := decs_at DX9_kindHere_0 15 rfl
theorem dX9_kindHere_32 : decode cX9_kindHere 32 = .ok (.ldc 117, 2) := decs_at DX9_kindHere_0 16 rfl
theorem dX9_kindHere_34 : decode cX9_kindHere 34 = .ok (.invokevirtual 67, 3) := decs_at DX9_kindHere_0 17 rfl
theorem dX9_kindHere_37 : decode cX9_kindHere 37 = .ok (.ifCond .eq 7, 3) := decs_at DX9_kindHere_0 18 rfl
theorem dX9_kindHere_40 : decode cX9_kindHere 40 = .ok (.iconst 2, 1) := decs_at DX9_kindHere_0 19 rfl
theorem dX9_kindHere_41 : decode cX9_kindHere 41 = .ok (.goto 4, 3) := decs_at DX9_kindHere_0 20 rfl
theorem dX9_kindHere_44 : decode cX9_kindHere 44 = .ok (.iconst (-1), 1) := decs_at DX9_kindHere_0 21 rfl
theorem dX9_kindHere_45 : decode cX9_kindHere 45 = .ok (.ireturn, 1) := decs_at DX9_kindHere_0 22 rfl
theorem DX9_optionHere_0 : decs cX9_optionHere [(0, .aload_n 0, 1), (1, .getfield 25, 3), (4, .ldc 119, 2), (6, .invokevirtual 67, 3), (9, .ifCond .eq 5, 3), (12, .iconst 2, 1), (13, .ireturn, 1), (14, .aload_n 0, 1), (15, .getfield 25, 3), (18, .ldc 121, 2), (20, .invokevirtual 67, 3), (23, .ifCond .eq 5, 3), (26, .iconst 3, 1), (27, .ireturn, 1), (28, .aload_n 0, 1), (29, .getfield 25, 3), (32, .ldc 123, 2), (34, .invokevirtual 67, 3), (37, .ifCond .eq 5, 3), (40, .iconst 4, 1), (41, .ireturn, 1), (42, .aload_n 0, 1), (43, .getfield 25, 3), (46, .ldc 125, 2)] := by unfold decs; decide +kernel
theorem dX9_optionHere_0 : decode cX9_optionHere 0 = .ok (.aload_n 0, 1) := decs_at DX9_optionHere_0 0 rfl
theorem dX9_optionHere_1 : decode cX9_optionHere 1 = .ok (.getfield 25, 3) := decs_at DX9_optionHere_0 1 rfl
theorem dX9_optionHere_4 : decode cX9_optionHere 4 = .ok (.ldc 119, 2) := decs_at DX9_optionHere_0 2 rfl
theorem dX9_optionHere_6 : decode cX9_optionHere 6 = .ok (.invokevirtual 67, 3) := decs_at DX9_optionHere_0 3 rfl
theorem dX9_optionHere_9 : decode cX9_optionHere 9 = .ok (.ifCond .eq 5, 3) := decs_at DX9_optionHere_0 4 rfl
theorem dX9_optionHere_12 : decode cX9_optionHere 12 = .ok (.iconst 2, 1) := decs_at DX9_optionHere_0 5 rfl
theorem dX9_optionHere_13 : decode cX9_optionHere 13 = .ok (.ireturn, 1) := decs_at DX9_optionHere_0 6 rfl
theorem dX9_optionHere_14 : decode cX9_optionHere 14 = .ok (.aload_n 0, 1) := decs_at DX9_optionHere_0 7 rfl
theorem dX9_optionHere_15 : decode cX9_optionHere 15 = .ok (.getfield 25, 3) := decs_at DX9_optionHere_0 8 rfl
theorem dX9_optionHere_18 : decode cX9_optionHere 18 = .ok (.ldc 121, 2) := decs_at DX9_optionHere_0 9 rfl
theorem dX9_optionHere_20 : decode cX9_optionHere 20 = .ok (.invokevirtual 67, 3) := decs_at DX9_optionHere_0 10 rfl
theorem dX9_optionHere_23 : decode cX9_optionHere 23 = .ok (.ifCond .eq 5, 3) := decs_at DX9_optionHere_0 11 rfl
theorem dX9_optionHere_26 : decode cX9_optionHere 26 = .ok (.iconst 3, 1) := decs_at DX9_optionHere_0 12 rfl
theorem dX9_optionHere_27 : decode cX9_optionHere 27 = .ok (.ireturn, 1) := decs_at DX9_optionHere_0 13 rfl
theorem dX9_optionHere_28 : decode cX9_optionHere 28 = .ok (.aload_n 0, 1) := decs_at DX9_optionHere_0 14 rfl
theorem dX9_optionHere_29 : decode cX9_optionHere 29 = .ok (.getfield 25, 3) := decs_at DX9_optionHere_0 15 rfl
theorem dX9_optionHere_32 : decode cX9_optionHere 32 = .ok (.ldc 123, 2) := decs_at DX9_optionHere_0 16 rfl
theorem dX9_optionHere_34 : decode cX9_optionHere 34 = .ok (.invokevirtual 67, 3) := decs_at DX9_optionHere_0 17 rfl
theorem dX9_optionHere_37 : decode cX9_optionHere 37 = .ok (.ifCond .eq 5, 3) := decs_at DX9_optionHere_0 18 rfl
theorem dX9_optionHere_40 : decode cX9_optionHere 40 = .ok (.iconst 4, 1) := decs_at DX9_optionHere_0 19 rfl
theorem dX9_optionHere_41 : decode cX9_optionHere 41 = .ok (.ireturn, 1) := decs_at DX9_optionHere_0 20 rfl
theorem dX9_optionHere_42 : decode cX9_optionHere 42 = .ok (.aload_n 0, 1) := decs_at DX9_optionHere_0 21 rfl
theorem dX9_optionHere_43 : decode cX9_optionHere 43 = .ok (.getfield 25, 3) := decs_at DX9_optionHere_0 22 rfl
theorem dX9_optionHere_46 : decode cX9_optionHere 46 = .ok (.ldc 125, 2) := decs_at DX9_optionHere_0 23 rfl
theorem DX9_optionHere_24 : decs cX9_optionHere [(48, .invokevirtual 67, 3), (51, .ifCond .eq 5, 3), (54, .iconst 5, 1), (55, .ireturn, 1), (56, .aload_n 0, 1), (57, .getfield 25, 3), (60, .ldc 127, 2), (62, .invokevirtual 67, 3), (65, .ifCond .eq 8, 3), (68, .bipush 6, 2), (70, .goto 4, 3), (73, .iconst (-1), 1), (74, .ireturn, 1)] := by unfold decs; decide +kernel
theorem dX9_optionHere_48 : decode cX9_optionHere 48 = .ok (.invokevirtual 67, 3) := decs_at DX9_optionHere_24 0 rfl
theorem dX9_optionHere_51 : decode cX9_optionHere 51 = .ok (.ifCond .eq 5, 3) := decs_at DX9_optionHere_24 1 rfl
theorem dX9_optionHere_54 : decode cX9_optionHere 54 = .ok (.iconst 5, 1) := decs_at DX9_optionHere_24 2 rfl
theorem dX9_optionHere_55 : decode cX9_optionHere 55 = .ok (.ireturn, 1) := decs_at DX9_optionHere_24 3 rfl
theorem dX9_optionHere_56 : decode cX9_optionHere 56 = .ok (.aload_n 0, 1) := decs_at DX9_optionHere_24 4 rfl
theorem dX9_optionHere_57 : decode cX9_optionHere 57 = .ok (.getfield 25, 3) := decs_at DX9_optionHere_24 5 rfl
theorem dX9_optionHere_60 : decode cX9_optionHere 60 = .ok (.ldc 127, 2) := decs_at DX9_optionHere_24 6 rfl
theorem dX9_optionHere_62 : decode cX9_optionHere 62 = .ok (.invokevirtual 67, 3) := decs_at DX9_optionHere_24 7 rfl
theorem dX9_optionHere_65 : decode cX9_optionHere 65 = .ok (.ifCond .eq 8, 3) := decs_at DX9_optionHere_24 8 rfl
theorem dX9_optionHere_68 : decode cX9_optionHere 68 = .ok (.bipush 6, 2) := decs_at DX9_optionHere_24 9 rfl
theorem dX9_optionHere_70 : decode cX9_optionHere 70 = .ok (.goto 4, 3) := decs_at DX9_optionHere_24 10 rfl
theorem dX9_optionHere_73 : decode cX9_optionHere 73 = .ok (.iconst (-1), 1) := decs_at DX9_optionHere_24 11 rfl
theorem dX9_optionHere_74 : decode cX9_optionHere 74 = .ok (.ireturn, 1) := decs_at DX9_optionHere_24 12 rfl
theorem DX9_mostOf_0 : decs cX9_mostOf [(0, .iload_n 0, 1), (1, .iconst 3, 1), (2, .if_icmp .ne 7, 3), (5, .iconst 3, 1), (6, .goto 15, 3), (9, .iload_n 0, 1), (10, .iconst 4, 1), (11, .if_icmp .ne 8, 3), (14, .bipush 99, 2), (16, .goto 5, 3), (19, .bipush 100, 2), (21, .ireturn, 1)] := by unfold decs; decide +kernel
theorem dX9_mostOf_0 : decode cX9_mostOf 0 = .ok (.iload_n 0, 1) := decs_at DX9_mostOf_0 0 rfl
theorem dX9_mostOf_1 : decode cX9_mostOf 1 = .ok (.iconst 3, 1) := decs_at DX9_mostOf_0 1 rfl
theorem dX9_mostOf_2 : decode cX9_mostOf 2 = .ok (.if_icmp .ne 7, 3) := decs_at DX9_mostOf_0 2 rfl
theorem dX9_mostOf_5 : decode cX9_mostOf 5 = .ok (.iconst 3, 1) := decs_at DX9_mostOf_0 3 rfl
theorem dX9_mostOf_6 : decode cX9_mostOf 6 = .ok (.goto 15, 3) := decs_at DX9_mostOf_0 4 rfl
theorem dX9_mostOf_9 : decode cX9_mostOf 9 = .ok (.iload_n 0, 1) := decs_at DX9_mostOf_0 5 rfl
theorem dX9_mostOf_10 : decode cX9_mostOf 10 = .ok (.iconst 4, 1) := decs_at DX9_mostOf_0 6 rfl
theorem dX9_mostOf_11 : decode cX9_mostOf 11 = .ok (.if_icmp .ne 8, 3) := decs_at DX9_mostOf_0 7 rfl
theorem dX9_mostOf_14 : decode cX9_mostOf 14 = .ok (.bipush 99, 2) := decs_at DX9_mostOf_0 8 rfl
theorem dX9_mostOf_16 : decode cX9_mostOf 16 = .ok (.goto 5, 3) := decs_at DX9_mostOf_0 9 rfl
theorem dX9_mostOf_19 : decode cX9_mostOf 19 = .ok (.bipush 100, 2) := decs_at DX9_mostOf_0 10 rfl
theorem dX9_mostOf_21 : decode cX9_mostOf 21 = .ok (.ireturn, 1) := decs_at DX9_mostOf_0 11 rfl
theorem DX9_takeStuck_0 : decs cX9_takeStuck [(0, .aload_n 0, 1), (1, .getfield 25, 3), (4, .ldc 129, 2), (6, .invokevirtual 67, 3), (9, .ifCond .eq 7, 3), (12, .iconst 1, 1), (13, .goto 20, 3), (16, .aload_n 0, 1), (17, .getfield 25, 3), (20, .ldc 131, 2), (22, .invokevirtual 67, 3), (25, .ifCond .eq 7, 3), (28, .iconst 2, 1), (29, .goto 4, 3), (32, .iconst (-1), 1), (33, .istore_n 1, 1), (34, .iload_n 1, 1), (35, .iconst (-1), 1), (36, .if_icmp .ne 15, 3), (39, .aload_n 0, 1), (40, .getfield 25, 3), (43, .iconst 1, 1), (44, .invokevirtual 56, 3), (47, .pop, 1)] := by unfold decs; decide +kernel
theorem dX9_takeStuck_0 : decode cX9_takeStuck 0 = .ok (.aload_n 0, 1) := decs_at DX9_takeStuck_0 0 rfl
theorem dX9_takeStuck_1 : decode cX9_takeStuck 1 = .ok (.getfield 25, 3) := decs_at DX9_takeStuck_0 1 rfl
theorem dX9_takeStuck_4 : decode cX9_takeStuck 4 = .ok (.ldc 129, 2) := decs_at DX9_takeStuck_0 2 rfl
theorem dX9_takeStuck_6 : decode cX9_takeStuck 6 = .ok (.invokevirtual 67, 3) := decs_at DX9_takeStuck_0 3 rfl
theorem dX9_takeStuck_9 : decode cX9_takeStuck 9 = .ok (.ifCond .eq 7, 3) := decs_at DX9_takeStuck_0 4 rfl
theorem dX9_takeStuck_12 : decode cX9_takeStuck 12 = .ok (.iconst 1, 1) := decs_at DX9_takeStuck_0 5 rfl
theorem dX9_takeStuck_13 : decode cX9_takeStuck 13 = .ok (.goto 20, 3) := decs_at DX9_takeStuck_0 6 rfl
theorem dX9_takeStuck_16 : decode cX9_takeStuck 16 = .ok (.aload_n 0, 1) := decs_at DX9_takeStuck_0 7 rfl
theorem dX9_takeStuck_17 : decode cX9_takeStuck 17 = .ok (.getfield 25, 3) := decs_at DX9_takeStuck_0 8 rfl
theorem dX9_takeStuck_20 : decode cX9_takeStuck 20 = .ok (.ldc 131, 2) := decs_at DX9_takeStuck_0 9 rfl
theorem dX9_takeStuck_22 : decode cX9_takeStuck 22 = .ok (.invokevirtual 67, 3) := decs_at DX9_takeStuck_0 10 rfl
theorem dX9_takeStuck_25 : decode cX9_takeStuck 25 = .ok (.ifCond .eq 7, 3) := decs_at DX9_takeStuck_0 11 rfl
theorem dX9_takeStuck_28 : decode cX9_takeStuck 28 = .ok (.iconst 2, 1) := decs_at DX9_takeStuck_0 12 rfl
theorem dX9_takeStuck_29 : decode cX9_takeStuck 29 = .ok (.goto 4, 3) := decs_at DX9_takeStuck_0 13 rfl
theorem dX9_takeStuck_32 : decode cX9_takeStuck 32 = .ok (.iconst (-1), 1) := decs_at DX9_takeStuck_0 14 rfl
theorem dX9_takeStuck_33 : decode cX9_takeStuck 33 = .ok (.istore_n 1, 1) := decs_at DX9_takeStuck_0 15 rfl
theorem dX9_takeStuck_34 : decode cX9_takeStuck 34 = .ok (.iload_n 1, 1) := decs_at DX9_takeStuck_0 16 rfl
theorem dX9_takeStuck_35 : decode cX9_takeStuck 35 = .ok (.iconst (-1), 1) := decs_at DX9_takeStuck_0 17 rfl
theorem dX9_takeStuck_36 : decode cX9_takeStuck 36 = .ok (.if_icmp .ne 15, 3) := decs_at DX9_takeStuck_0 18 rfl
theorem dX9_takeStuck_39 : decode cX9_takeStuck 39 = .ok (.aload_n 0, 1) := decs_at DX9_takeStuck_0 19 rfl
theorem dX9_takeStuck_40 : decode cX9_takeStuck 40 = .ok (.getfield 25, 3) := decs_at DX9_takeStuck_0 20 rfl
theorem dX9_takeStuck_43 : decode cX9_takeStuck 43 = .ok (.iconst 1, 1) := decs_at DX9_takeStuck_0 21 rfl
theorem dX9_takeStuck_44 : decode cX9_takeStuck 44 = .ok (.invokevirtual 56, 3) := decs_at DX9_takeStuck_0 22 rfl
theorem dX9_takeStuck_47 : decode cX9_takeStuck 47 = .ok (.pop, 1) := decs_at DX9_takeStuck_0 23 rfl
theorem DX9_takeStuck_24 : decs cX9_takeStuck [(48, .goto 10, 3), (51, .aload_n 0, 1), (52, .getfield 25, 3), (55, .invokevirtual 84, 3), (58, .iload_n 1, 1), (59, .ireturn, 1)] := by unfold decs; decide +kernel
theorem dX9_takeStuck_48 : decode cX9_takeStuck 48 = .ok (.goto 10, 3) := decs_at DX9_takeStuck_24 0 rfl
theorem dX9_takeStuck_51 : decode cX9_takeStuck 51 = .ok (.aload_n 0, 1) := decs_at DX9_takeStuck_24 1 rfl
theorem dX9_takeStuck_52 : decode cX9_takeStuck 52 = .ok (.getfield 25, 3) := decs_at DX9_takeStuck_24 2 rfl
theorem dX9_takeStuck_55 : decode cX9_takeStuck 55 = .ok (.invokevirtual 84, 3) := decs_at DX9_takeStuck_24 3 rfl
theorem dX9_takeStuck_58 : decode cX9_takeStuck 58 = .ok (.iload_n 1, 1) := decs_at DX9_takeStuck_24 4 rfl
theorem dX9_takeStuck_59 : decode cX9_takeStuck 59 = .ok (.ireturn, 1) := decs_at DX9_takeStuck_24 5 rfl
theorem DX10_tell_0 : decs cX10_tell [(0, .aload_n 0, 1), (1, .iload_n 1, 1), (2, .putfield 52, 3), (5, .aload_n 0, 1), (6, .iload_n 2, 1), (7, .putfield 55, 3), (10, .aload_n 0, 1), (11, .iload_n 3, 1), (12, .putfield 58, 3), (15, .return_, 1)] := by unfold decs; decide +kernel
theorem dX10_tell_0 : decode cX10_tell 0 = .ok (.aload_n 0, 1) := decs_at DX10_tell_0 0 rfl
theorem dX10_tell_1 : decode cX10_tell 1 = .ok (.iload_n 1, 1) := decs_at DX10_tell_0 1 rfl
theorem dX10_tell_2 : decode cX10_tell 2 = .ok (.putfield 52, 3) := decs_at DX10_tell_0 2 rfl
theorem dX10_tell_5 : decode cX10_tell 5 = .ok (.aload_n 0, 1) := decs_at DX10_tell_0 3 rfl
theorem dX10_tell_6 : decode cX10_tell 6 = .ok (.iload_n 2, 1) := decs_at DX10_tell_0 4 rfl
theorem dX10_tell_7 : decode cX10_tell 7 = .ok (.putfield 55, 3) := decs_at DX10_tell_0 5 rfl
theorem dX10_tell_10 : decode cX10_tell 10 = .ok (.aload_n 0, 1) := decs_at DX10_tell_0 6 rfl
theorem dX10_tell_11 : decode cX10_tell 11 = .ok (.iload_n 3, 1) := decs_at DX10_tell_0 7 rfl
theorem dX10_tell_12 : decode cX10_tell 12 = .ok (.putfield 58, 3) := decs_at DX10_tell_0 8 rfl
theorem dX10_tell_15 : decode cX10_tell 15 = .ok (.return_, 1) := decs_at DX10_tell_0 9 rfl
theorem DX10_lastHelp_0 : decs cX10_lastHelp [(0, .iconst (-1), 1), (1, .istore_n 2, 1), (2, .aload_n 0, 1), (3, .getfield 25, 3), (6, .aload_n 0, 1), (7, .getfield 61, 3), (10, .invokevirtual 68, 3), (13, .aload_n 0, 1), (14, .getfield 35, 3), (17, .aload_n 0, 1), (18, .getfield 52, 3), (21, .aload_n 0, 1), (22, .getfield 55, 3), (25, .aload_n 0, 1), (26, .getfield 58, 3), (29, .invokevirtual 72, 3), (32, .iconst 0, 1), (33, .istore_n 3, 1), (34, .iload_n 3, 1), (35, .sipush 400, 3), (38, .if_icmp .gt 121, 3), (41, .aload_n 0, 1), (42, .getfield 35, 3), (45, .iload_n 1, 1)] := by unfold decs; decide +kernel
theorem dX10_lastHelp_0 : decode cX10_lastHelp 0 = .ok (.iconst (-1), 1) := decs_at DX10_lastHelp_0 0 rfl
theorem dX10_lastHelp_1 : decode cX10_lastHelp 1 = .ok (.istore_n 2, 1) := decs_at DX10_lastHelp_0 1 rfl
theorem dX10_lastHelp_2 : decode cX10_lastHelp 2 = .ok (.aload_n 0, 1) := decs_at DX10_lastHelp_0 2 rfl
theorem dX10_lastHelp_3 : decode cX10_lastHelp 3 = .ok (.getfield 25, 3) := decs_at DX10_lastHelp_0 3 rfl
theorem dX10_lastHelp_6 : decode cX10_lastHelp 6 = .ok (.aload_n 0, 1) := decs_at DX10_lastHelp_0 4 rfl
theorem dX10_lastHelp_7 : decode cX10_lastHelp 7 = .ok (.getfield 61, 3) := decs_at DX10_lastHelp_0 5 rfl
theorem dX10_lastHelp_10 : decode cX10_lastHelp 10 = .ok (.invokevirtual 68, 3) := decs_at DX10_lastHelp_0 6 rfl
theorem dX10_lastHelp_13 : decode cX10_lastHelp 13 = .ok (.aload_n 0, 1) := decs_at DX10_lastHelp_0 7 rfl
theorem dX10_lastHelp_14 : decode cX10_lastHelp 14 = .ok (.getfield 35, 3) := decs_at DX10_lastHelp_0 8 rfl
theorem dX10_lastHelp_17 : decode cX10_lastHelp 17 = .ok (.aload_n 0, 1) := decs_at DX10_lastHelp_0 9 rfl
theorem dX10_lastHelp_18 : decode cX10_lastHelp 18 = .ok (.getfield 52, 3) := decs_at DX10_lastHelp_0 10 rfl
theorem dX10_lastHelp_21 : decode cX10_lastHelp 21 = .ok (.aload_n 0, 1) := decs_at DX10_lastHelp_0 11 rfl
theorem dX10_lastHelp_22 : decode cX10_lastHelp 22 = .ok (.getfield 55, 3) := decs_at DX10_lastHelp_0 12 rfl
theorem dX10_lastHelp_25 : decode cX10_lastHelp 25 = .ok (.aload_n 0, 1) := decs_at DX10_lastHelp_0 13 rfl
theorem dX10_lastHelp_26 : decode cX10_lastHelp 26 = .ok (.getfield 58, 3) := decs_at DX10_lastHelp_0 14 rfl
theorem dX10_lastHelp_29 : decode cX10_lastHelp 29 = .ok (.invokevirtual 72, 3) := decs_at DX10_lastHelp_0 15 rfl
theorem dX10_lastHelp_32 : decode cX10_lastHelp 32 = .ok (.iconst 0, 1) := decs_at DX10_lastHelp_0 16 rfl
theorem dX10_lastHelp_33 : decode cX10_lastHelp 33 = .ok (.istore_n 3, 1) := decs_at DX10_lastHelp_0 17 rfl
theorem dX10_lastHelp_34 : decode cX10_lastHelp 34 = .ok (.iload_n 3, 1) := decs_at DX10_lastHelp_0 18 rfl
theorem dX10_lastHelp_35 : decode cX10_lastHelp 35 = .ok (.sipush 400, 3) := decs_at DX10_lastHelp_0 19 rfl
theorem dX10_lastHelp_38 : decode cX10_lastHelp 38 = .ok (.if_icmp .gt 121, 3) := decs_at DX10_lastHelp_0 20 rfl
theorem dX10_lastHelp_41 : decode cX10_lastHelp 41 = .ok (.aload_n 0, 1) := decs_at DX10_lastHelp_0 21 rfl
theorem dX10_lastHelp_42 : decode cX10_lastHelp 42 = .ok (.getfield 35, 3) := decs_at DX10_lastHelp_0 22 rfl
theorem dX10_lastHelp_45 : decode cX10_lastHelp 45 = .ok (.iload_n 1, 1) := decs_at DX10_lastHelp_0 23 rfl
theorem DX10_lastHelp_24 : decs cX10_lastHelp [(46, .invokevirtual 75, 3), (49, .ifCond .ne 5, 3), (52, .iload_n 2, 1), (53, .ireturn, 1), (54, .aload_n 0, 1), (55, .getfield 35, 3), (58, .invokevirtual 79, 3), (61, .ifCond .eq 7, 3), (64, .sipush 400, 3), (67, .ireturn, 1), (68, .aload_n 0, 1), (69, .getfield 21, 3), (72, .aload_n 0, 1), (73, .getfield 25, 3), (76, .invokevirtual 83, 3), (79, .aload_n 0, 1), (80, .getfield 21, 3), (83, .invokevirtual 87, 3), (86, .aload_n 0, 1), (87, .getfield 31, 3), (90, .aload_n 0, 1), (91, .getfield 35, 3), (94, .invokevirtual 90, 3), (97, .aload_n 0, 1)] := by unfold decs; decide +kernel
theorem dX10_lastHelp_46 : decode cX10_lastHelp 46 = .ok (.invokevirtual 75, 3) := decs_at DX10_lastHelp_24 0 rfl
theorem dX10_lastHelp_49 : decode cX10_lastHelp 49 = .ok (.ifCond .ne 5, 3) := decs_at DX10_lastHelp_24 1 rfl
theorem dX10_lastHelp_52 : decode cX10_lastHelp 52 = .ok (.iload_n 2, 1) := decs_at DX10_lastHelp_24 2 rfl
theorem dX10_lastHelp_53 : decode cX10_lastHelp 53 = .ok (.ireturn, 1) := decs_at DX10_lastHelp_24 3 rfl
theorem dX10_lastHelp_54 : decode cX10_lastHelp 54 = .ok (.aload_n 0, 1) := decs_at DX10_lastHelp_24 4 rfl
theorem dX10_lastHelp_55 : decode cX10_lastHelp 55 = .ok (.getfield 35, 3) := decs_at DX10_lastHelp_24 5 rfl
theorem dX10_lastHelp_58 : decode cX10_lastHelp 58 = .ok (.invokevirtual 79, 3) := decs_at DX10_lastHelp_24 6 rfl
theorem dX10_lastHelp_61 : decode cX10_lastHelp 61 = .ok (.ifCond .eq 7, 3) := decs_at DX10_lastHelp_24 7 rfl
theorem dX10_lastHelp_64 : decode cX10_lastHelp 64 = .ok (.sipush 400, 3) := decs_at DX10_lastHelp_24 8 rfl
theorem dX10_lastHelp_67 : decode cX10_lastHelp 67 = .ok (.ireturn, 1) := decs_at DX10_lastHelp_24 9 rfl
theorem dX10_lastHelp_68 : decode cX10_lastHelp 68 = .ok (.aload_n 0, 1) := decs_at DX10_lastHelp_24 10 rfl
theorem dX10_lastHelp_69 : decode cX10_lastHelp 69 = .ok (.getfield 21, 3) := decs_at DX10_lastHelp_24 11 rfl
theorem dX10_lastHelp_72 : decode cX10_lastHelp 72 = .ok (.aload_n 0, 1) := decs_at DX10_lastHelp_24 12 rfl
theorem dX10_lastHelp_73 : decode cX10_lastHelp 73 = .ok (.getfield 25, 3) := decs_at DX10_lastHelp_24 13 rfl
theorem dX10_lastHelp_76 : decode cX10_lastHelp 76 = .ok (.invokevirtual 83, 3) := decs_at DX10_lastHelp_24 14 rfl
theorem dX10_lastHelp_79 : decode cX10_lastHelp 79 = .ok (.aload_n 0, 1) := decs_at DX10_lastHelp_24 15 rfl
theorem dX10_lastHelp_80 : decode cX10_lastHelp 80 = .ok (.getfield 21, 3) := decs_at DX10_lastHelp_24 16 rfl
theorem dX10_lastHelp_83 : decode cX10_lastHelp 83 = .ok (.invokevirtual 87, 3) := decs_at DX10_lastHelp_24 17 rfl
theorem dX10_lastHelp_86 : decode cX10_lastHelp 86 = .ok (.aload_n 0, 1) := decs_at DX10_lastHelp_24 18 rfl
theorem dX10_lastHelp_87 : decode cX10_lastHelp 87 = .ok (.getfield 31, 3) := decs_at DX10_lastHelp_24 19 rfl
theorem dX10_lastHelp_90 : decode cX10_lastHelp 90 = .ok (.aload_n 0, 1) := decs_at DX10_lastHelp_24 20 rfl
theorem dX10_lastHelp_91 : decode cX10_lastHelp 91 = .ok (.getfield 35, 3) := decs_at DX10_lastHelp_24 21 rfl
theorem dX10_lastHelp_94 : decode cX10_lastHelp 94 = .ok (.invokevirtual 90, 3) := decs_at DX10_lastHelp_24 22 rfl
theorem dX10_lastHelp_97 : decode cX10_lastHelp 97 = .ok (.aload_n 0, 1) := decs_at DX10_lastHelp_24 23 rfl
theorem DX10_lastHelp_48 : decs cX10_lastHelp [(98, .getfield 31, 3), (101, .iload_n 1, 1), (102, .aload_n 0, 1), (103, .getfield 61, 3), (106, .aload_n 0, 1), (107, .getfield 64, 3), (110, .aload_n 0, 1), (111, .getfield 21, 3), (114, .invokevirtual 93, 3), (117, .iconst (-1), 1), (118, .if_icmp .eq 5, 3), (121, .iload_n 3, 1), (122, .istore_n 2, 1), (123, .aload_n 0, 1), (124, .getfield 25, 3), (127, .aload_n 0, 1), (128, .getfield 61, 3), (131, .aload_n 0, 1), (132, .getfield 64, 3), (135, .invokevirtual 97, 3), (138, .aload_n 0, 1), (139, .getfield 35, 3), (142, .aload_n 0, 1), (143, .getfield 61, 3)] := by unfold decs; decide +kernel
theorem dX10_lastHelp_98 : decode cX10_lastHelp 98 = .ok (.getfield 31, 3) := decs_at DX10_lastHelp_48 0 rfl
theorem dX10_lastHelp_101 : decode cX10_lastHelp 101 = .ok (.iload_n 1, 1) := decs_at DX10_lastHelp_48 1 rfl
theorem dX10_lastHelp_102 : decode cX10_lastHelp 102 = .ok (.aload_n 0, 1) := decs_at DX10_lastHelp_48 2 rfl
theorem dX10_lastHelp_103 : decode cX10_lastHelp 103 = .ok (.getfield 61, 3) := decs_at DX10_lastHelp_48 3 rfl
theorem dX10_lastHelp_106 : decode cX10_lastHelp 106 = .ok (.aload_n 0, 1) := decs_at DX10_lastHelp_48 4 rfl
theorem dX10_lastHelp_107 : decode cX10_lastHelp 107 = .ok (.getfield 64, 3) := decs_at DX10_lastHelp_48 5 rfl
theorem dX10_lastHelp_110 : decode cX10_lastHelp 110 = .ok (.aload_n 0, 1) := decs_at DX10_lastHelp_48 6 rfl
theorem dX10_lastHelp_111 : decode cX10_lastHelp 111 = .ok (.getfield 21, 3) := decs_at DX10_lastHelp_48 7 rfl
theorem dX10_lastHelp_114 : decode cX10_lastHelp 114 = .ok (.invokevirtual 93, 3) := decs_at DX10_lastHelp_48 8 rfl
theorem dX10_lastHelp_117 : decode cX10_lastHelp 117 = .ok (.iconst (-1), 1) := decs_at DX10_lastHelp_48 9 rfl
theorem dX10_lastHelp_118 : decode cX10_lastHelp 118 = .ok (.if_icmp .eq 5, 3) := decs_at DX10_lastHelp_48 10 rfl
theorem dX10_lastHelp_121 : decode cX10_lastHelp 121 = .ok (.iload_n 3, 1) := decs_at DX10_lastHelp_48 11 rfl
theorem dX10_lastHelp_122 : decode cX10_lastHelp 122 = .ok (.istore_n 2, 1) := decs_at DX10_lastHelp_48 12 rfl
theorem dX10_lastHelp_123 : decode cX10_lastHelp 123 = .ok (.aload_n 0, 1) := decs_at DX10_lastHelp_48 13 rfl
theorem dX10_lastHelp_124 : decode cX10_lastHelp 124 = .ok (.getfield 25, 3) := decs_at DX10_lastHelp_48 14 rfl
theorem dX10_lastHelp_127 : decode cX10_lastHelp 127 = .ok (.aload_n 0, 1) := decs_at DX10_lastHelp_48 15 rfl
theorem dX10_lastHelp_128 : decode cX10_lastHelp 128 = .ok (.getfield 61, 3) := decs_at DX10_lastHelp_48 16 rfl
theorem dX10_lastHelp_131 : decode cX10_lastHelp 131 = .ok (.aload_n 0, 1) := decs_at DX10_lastHelp_48 17 rfl
theorem dX10_lastHelp_132 : decode cX10_lastHelp 132 = .ok (.getfield 64, 3) := decs_at DX10_lastHelp_48 18 rfl
theorem dX10_lastHelp_135 : decode cX10_lastHelp 135 = .ok (.invokevirtual 97, 3) := decs_at DX10_lastHelp_48 19 rfl
theorem dX10_lastHelp_138 : decode cX10_lastHelp 138 = .ok (.aload_n 0, 1) := decs_at DX10_lastHelp_48 20 rfl
theorem dX10_lastHelp_139 : decode cX10_lastHelp 139 = .ok (.getfield 35, 3) := decs_at DX10_lastHelp_48 21 rfl
theorem dX10_lastHelp_142 : decode cX10_lastHelp 142 = .ok (.aload_n 0, 1) := decs_at DX10_lastHelp_48 22 rfl
theorem dX10_lastHelp_143 : decode cX10_lastHelp 143 = .ok (.getfield 61, 3) := decs_at DX10_lastHelp_48 23 rfl
theorem DX10_lastHelp_72 : decs cX10_lastHelp [(146, .aload_n 0, 1), (147, .getfield 25, 3), (150, .invokevirtual 101, 3), (153, .iinc 3 1, 3), (156, .goto (-122), 3), (159, .iload_n 2, 1), (160, .ireturn, 1)] := by unfold decs; decide +kernel
theorem dX10_lastHelp_146 : decode cX10_lastHelp 146 = .ok (.aload_n 0, 1) := decs_at DX10_lastHelp_72 0 rfl
theorem dX10_lastHelp_147 : decode cX10_lastHelp 147 = .ok (.getfield 25, 3) := decs_at DX10_lastHelp_72 1 rfl
theorem dX10_lastHelp_150 : decode cX10_lastHelp 150 = .ok (.invokevirtual 101, 3) := decs_at DX10_lastHelp_72 2 rfl
theorem dX10_lastHelp_153 : decode cX10_lastHelp 153 = .ok (.iinc 3 1, 3) := decs_at DX10_lastHelp_72 3 rfl
theorem dX10_lastHelp_156 : decode cX10_lastHelp 156 = .ok (.goto (-122), 3) := decs_at DX10_lastHelp_72 4 rfl
theorem dX10_lastHelp_159 : decode cX10_lastHelp 159 = .ok (.iload_n 2, 1) := decs_at DX10_lastHelp_72 5 rfl
theorem dX10_lastHelp_160 : decode cX10_lastHelp 160 = .ok (.ireturn, 1) := decs_at DX10_lastHelp_72 6 rfl
theorem DX10_spanParted_0 : decs cX10_spanParted [(0, .aload_n 0, 1), (1, .getfield 21, 3), (4, .aload_n 0, 1), (5, .getfield 61, 3), (8, .invokevirtual 68, 3), (11, .aload_n 0, 1), (12, .getfield 21, 3), (15, .iload_n 1, 1), (16, .iload_n 2, 1), (17, .invokevirtual 105, 3), (20, .aload_n 0, 1), (21, .getfield 31, 3), (24, .aload_n 0, 1), (25, .getfield 52, 3), (28, .aload_n 0, 1), (29, .getfield 55, 3), (32, .aload_n 0, 1), (33, .getfield 58, 3), (36, .invokevirtual 72, 3), (39, .aload_n 0, 1), (40, .getfield 31, 3), (43, .ldc 109, 2), (45, .aload_n 0, 1), (46, .getfield 61, 3)] := by unfold decs; decide +kernel
theorem dX10_spanParted_0 : decode cX10_spanParted 0 = .ok (.aload_n 0, 1) := decs_at DX10_spanParted_0 0 rfl
theorem dX10_spanParted_1 : decode cX10_spanParted 1 = .ok (.getfield 21, 3) := decs_at DX10_spanParted_0 1 rfl
theorem dX10_spanParted_4 : decode cX10_spanParted 4 = .ok (.aload_n 0, 1) := decs_at DX10_spanParted_0 2 rfl
theorem dX10_spanParted_5 : decode cX10_spanParted 5 = .ok (.getfield 61, 3) := decs_at DX10_spanParted_0 3 rfl
theorem dX10_spanParted_8 : decode cX10_spanParted 8 = .ok (.invokevirtual 68, 3) := decs_at DX10_spanParted_0 4 rfl
theorem dX10_spanParted_11 : decode cX10_spanParted 11 = .ok (.aload_n 0, 1) := decs_at DX10_spanParted_0 5 rfl
theorem dX10_spanParted_12 : decode cX10_spanParted 12 = .ok (.getfield 21, 3) := decs_at DX10_spanParted_0 6 rfl
theorem dX10_spanParted_15 : decode cX10_spanParted 15 = .ok (.iload_n 1, 1) := decs_at DX10_spanParted_0 7 rfl
theorem dX10_spanParted_16 : decode cX10_spanParted 16 = .ok (.iload_n 2, 1) := decs_at DX10_spanParted_0 8 rfl
theorem dX10_spanParted_17 : decode cX10_spanParted 17 = .ok (.invokevirtual 105, 3) := decs_at DX10_spanParted_0 9 rfl
theorem dX10_spanParted_20 : decode cX10_spanParted 20 = .ok (.aload_n 0, 1) := decs_at DX10_spanParted_0 10 rfl
theorem dX10_spanParted_21 : decode cX10_spanParted 21 = .ok (.getfield 31, 3) := decs_at DX10_spanParted_0 11 rfl
theorem dX10_spanParted_24 : decode cX10_spanParted 24 = .ok (.aload_n 0, 1) := decs_at DX10_spanParted_0 12 rfl
theorem dX10_spanParted_25 : decode cX10_spanParted 25 = .ok (.getfield 52, 3) := decs_at DX10_spanParted_0 13 rfl
theorem dX10_spanParted_28 : decode cX10_spanParted 28 = .ok (.aload_n 0, 1) := decs_at DX10_spanParted_0 14 rfl
theorem dX10_spanParted_29 : decode cX10_spanParted 29 = .ok (.getfield 55, 3) := decs_at DX10_spanParted_0 15 rfl
theorem dX10_spanParted_32 : decode cX10_spanParted 32 = .ok (.aload_n 0, 1) := decs_at DX10_spanParted_0 16 rfl
theorem dX10_spanParted_33 : decode cX10_spanParted 33 = .ok (.getfield 58, 3) := decs_at DX10_spanParted_0 17 rfl
theorem dX10_spanParted_36 : decode cX10_spanParted 36 = .ok (.invokevirtual 72, 3) := decs_at DX10_spanParted_0 18 rfl
theorem dX10_spanParted_39 : decode cX10_spanParted 39 = .ok (.aload_n 0, 1) := decs_at DX10_spanParted_0 19 rfl
theorem dX10_spanParted_40 : decode cX10_spanParted 40 = .ok (.getfield 31, 3) := decs_at DX10_spanParted_0 20 rfl
theorem dX10_spanParted_43 : decode cX10_spanParted 43 = .ok (.ldc 109, 2) := decs_at DX10_spanParted_0 21 rfl
theorem dX10_spanParted_45 : decode cX10_spanParted 45 = .ok (.aload_n 0, 1) := decs_at DX10_spanParted_0 22 rfl
theorem dX10_spanParted_46 : decode cX10_spanParted 46 = .ok (.getfield 61, 3) := decs_at DX10_spanParted_0 23 rfl
theorem DX10_spanParted_24 : decs cX10_spanParted [(49, .aload_n 0, 1), (50, .getfield 64, 3), (53, .aload_n 0, 1), (54, .getfield 21, 3), (57, .invokevirtual 93, 3), (60, .ireturn, 1)] := by unfold decs; decide +kernel
theorem dX10_spanParted_49 : decode cX10_spanParted 49 = .ok (.aload_n 0, 1) := decs_at DX10_spanParted_24 0 rfl
theorem dX10_spanParted_50 : decode cX10_spanParted 50 = .ok (.getfield 64, 3) := decs_at DX10_spanParted_24 1 rfl
theorem dX10_spanParted_53 : decode cX10_spanParted 53 = .ok (.aload_n 0, 1) := decs_at DX10_spanParted_24 2 rfl
theorem dX10_spanParted_54 : decode cX10_spanParted 54 = .ok (.getfield 21, 3) := decs_at DX10_spanParted_24 3 rfl
theorem dX10_spanParted_57 : decode cX10_spanParted 57 = .ok (.invokevirtual 93, 3) := decs_at DX10_spanParted_24 4 rfl
theorem dX10_spanParted_60 : decode cX10_spanParted 60 = .ok (.ireturn, 1) := decs_at DX10_spanParted_24 5 rfl
theorem DX10_leastOrder_0 : decs cX10_leastOrder [(0, .iconst (-1), 1), (1, .istore_n 1, 1), (2, .aload_n 0, 1), (3, .invokevirtual 110, 3), (6, .aload_n 0, 1), (7, .invokevirtual 113, 3), (10, .iconst 0, 1), (11, .istore_n 2, 1), (12, .iload_n 2, 1), (13, .sipush 720, 3), (16, .if_icmp .ge 52, 3), (19, .aload_n 0, 1), (20, .invokevirtual 116, 3), (23, .aload_n 0, 1), (24, .iload_n 1, 1), (25, .iconst (-1), 1), (26, .if_icmp .ne 8, 3), (29, .ldc 109, 2), (31, .goto 6, 3), (34, .iload_n 1, 1), (35, .iconst 1, 1), (36, .isub, 1), (37, .invokevirtual 119, 3), (40, .istore_n 3, 1)] := by unfold decs; decide +kernel
theorem dX10_leastOrder_0 : decode cX10_leastOrder 0 = .ok (.iconst (-1), 1) := decs_at DX10_leastOrder_0 0 rfl
theorem dX10_leastOrder_1 : decode cX10_leastOrder 1 = .ok (.istore_n 1, 1) := decs_at DX10_leastOrder_0 1 rfl
theorem dX10_leastOrder_2 : decode cX10_leastOrder 2 = .ok (.aload_n 0, 1) := decs_at DX10_leastOrder_0 2 rfl
theorem dX10_leastOrder_3 : decode cX10_leastOrder 3 = .ok (.invokevirtual 110, 3) := decs_at DX10_leastOrder_0 3 rfl
theorem dX10_leastOrder_6 : decode cX10_leastOrder 6 = .ok (.aload_n 0, 1) := decs_at DX10_leastOrder_0 4 rfl
theorem dX10_leastOrder_7 : decode cX10_leastOrder 7 = .ok (.invokevirtual 113, 3) := decs_at DX10_leastOrder_0 5 rfl
theorem dX10_leastOrder_10 : decode cX10_leastOrder 10 = .ok (.iconst 0, 1) := decs_at DX10_leastOrder_0 6 rfl
theorem dX10_leastOrder_11 : decode cX10_leastOrder 11 = .ok (.istore_n 2, 1) := decs_at DX10_leastOrder_0 7 rfl
theorem dX10_leastOrder_12 : decode cX10_leastOrder 12 = .ok (.iload_n 2, 1) := decs_at DX10_leastOrder_0 8 rfl
theorem dX10_leastOrder_13 : decode cX10_leastOrder 13 = .ok (.sipush 720, 3) := decs_at DX10_leastOrder_0 9 rfl
theorem dX10_leastOrder_16 : decode cX10_leastOrder 16 = .ok (.if_icmp .ge 52, 3) := decs_at DX10_leastOrder_0 10 rfl
theorem dX10_leastOrder_19 : decode cX10_leastOrder 19 = .ok (.aload_n 0, 1) := decs_at DX10_leastOrder_0 11 rfl
theorem dX10_leastOrder_20 : decode cX10_leastOrder 20 = .ok (.invokevirtual 116, 3) := decs_at DX10_leastOrder_0 12 rfl
theorem dX10_leastOrder_23 : decode cX10_leastOrder 23 = .ok (.aload_n 0, 1) := decs_at DX10_leastOrder_0 13 rfl
theorem dX10_leastOrder_24 : decode cX10_leastOrder 24 = .ok (.iload_n 1, 1) := decs_at DX10_leastOrder_0 14 rfl
theorem dX10_leastOrder_25 : decode cX10_leastOrder 25 = .ok (.iconst (-1), 1) := decs_at DX10_leastOrder_0 15 rfl
theorem dX10_leastOrder_26 : decode cX10_leastOrder 26 = .ok (.if_icmp .ne 8, 3) := decs_at DX10_leastOrder_0 16 rfl
theorem dX10_leastOrder_29 : decode cX10_leastOrder 29 = .ok (.ldc 109, 2) := decs_at DX10_leastOrder_0 17 rfl
theorem dX10_leastOrder_31 : decode cX10_leastOrder 31 = .ok (.goto 6, 3) := decs_at DX10_leastOrder_0 18 rfl
theorem dX10_leastOrder_34 : decode cX10_leastOrder 34 = .ok (.iload_n 1, 1) := decs_at DX10_leastOrder_0 19 rfl
theorem dX10_leastOrder_35 : decode cX10_leastOrder 35 = .ok (.iconst 1, 1) := decs_at DX10_leastOrder_0 20 rfl
theorem dX10_leastOrder_36 : decode cX10_leastOrder 36 = .ok (.isub, 1) := decs_at DX10_leastOrder_0 21 rfl
theorem dX10_leastOrder_37 : decode cX10_leastOrder 37 = .ok (.invokevirtual 119, 3) := decs_at DX10_leastOrder_0 22 rfl
theorem dX10_leastOrder_40 : decode cX10_leastOrder 40 = .ok (.istore_n 3, 1) := decs_at DX10_leastOrder_0 23 rfl
theorem DX10_leastOrder_24 : decs cX10_leastOrder [(41, .iload_n 3, 1), (42, .iconst (-1), 1), (43, .if_icmp .eq 9, 3), (46, .iload_n 3, 1), (47, .istore_n 1, 1), (48, .aload_n 0, 1), (49, .invokevirtual 113, 3), (52, .aload_n 0, 1), (53, .invokevirtual 123, 3), (56, .ifCond .ne 6, 3), (59, .goto 9, 3), (62, .iinc 2 1, 3), (65, .goto (-53), 3), (68, .iload_n 1, 1), (69, .ireturn, 1)] := by unfold decs; decide +kernel
theorem dX10_leastOrder_41 : decode cX10_leastOrder 41 = .ok (.iload_n 3, 1) := decs_at DX10_leastOrder_24 0 rfl
theorem dX10_leastOrder_42 : decode cX10_leastOrder 42 = .ok (.iconst (-1), 1) := decs_at DX10_leastOrder_24 1 rfl
theorem dX10_leastOrder_43 : decode cX10_leastOrder 43 = .ok (.if_icmp .eq 9, 3) := decs_at DX10_leastOrder_24 2 rfl
theorem dX10_leastOrder_46 : decode cX10_leastOrder 46 = .ok (.iload_n 3, 1) := decs_at DX10_leastOrder_24 3 rfl
theorem dX10_leastOrder_47 : decode cX10_leastOrder 47 = .ok (.istore_n 1, 1) := decs_at DX10_leastOrder_24 4 rfl
theorem dX10_leastOrder_48 : decode cX10_leastOrder 48 = .ok (.aload_n 0, 1) := decs_at DX10_leastOrder_24 5 rfl
theorem dX10_leastOrder_49 : decode cX10_leastOrder 49 = .ok (.invokevirtual 113, 3) := decs_at DX10_leastOrder_24 6 rfl
theorem dX10_leastOrder_52 : decode cX10_leastOrder 52 = .ok (.aload_n 0, 1) := decs_at DX10_leastOrder_24 7 rfl
theorem dX10_leastOrder_53 : decode cX10_leastOrder 53 = .ok (.invokevirtual 123, 3) := decs_at DX10_leastOrder_24 8 rfl
theorem dX10_leastOrder_56 : decode cX10_leastOrder 56 = .ok (.ifCond .ne 6, 3) := decs_at DX10_leastOrder_24 9 rfl
theorem dX10_leastOrder_59 : decode cX10_leastOrder 59 = .ok (.goto 9, 3) := decs_at DX10_leastOrder_24 10 rfl
theorem dX10_leastOrder_62 : decode cX10_leastOrder 62 = .ok (.iinc 2 1, 3) := decs_at DX10_leastOrder_24 11 rfl
theorem dX10_leastOrder_65 : decode cX10_leastOrder 65 = .ok (.goto (-53), 3) := decs_at DX10_leastOrder_24 12 rfl
theorem dX10_leastOrder_68 : decode cX10_leastOrder 68 = .ok (.iload_n 1, 1) := decs_at DX10_leastOrder_24 13 rfl
theorem dX10_leastOrder_69 : decode cX10_leastOrder 69 = .ok (.ireturn, 1) := decs_at DX10_leastOrder_24 14 rfl
theorem DX10_greatestOrder_0 : decs cX10_greatestOrder [(0, .iconst (-1), 1), (1, .istore_n 1, 1), (2, .aload_n 0, 1), (3, .invokevirtual 110, 3), (6, .iconst 0, 1), (7, .istore_n 2, 1), (8, .iload_n 2, 1), (9, .sipush 720, 3), (12, .if_icmp .ge 51, 3), (15, .aload_n 0, 1), (16, .invokevirtual 116, 3), (19, .aload_n 0, 1), (20, .ldc 109, 2), (22, .invokevirtual 119, 3), (25, .istore_n 3, 1), (26, .iload_n 3, 1), (27, .iconst (-1), 1), (28, .if_icmp .eq 8, 3), (31, .iload_n 3, 1), (32, .iload_n 1, 1), (33, .if_icmp .le 9, 3), (36, .iload_n 3, 1), (37, .istore_n 1, 1), (38, .aload_n 0, 1)] := by unfold decs; decide +kernel
theorem dX10_greatestOrder_0 : decode cX10_greatestOrder 0 = .ok (.iconst (-1), 1) := decs_at DX10_greatestOrder_0 0 rfl
theorem dX10_greatestOrder_1 : decode cX10_greatestOrder 1 = .ok (.istore_n 1, 1) := decs_at DX10_greatestOrder_0 1 rfl
theorem dX10_greatestOrder_2 : decode cX10_greatestOrder 2 = .ok (.aload_n 0, 1) := decs_at DX10_greatestOrder_0 2 rfl
theorem dX10_greatestOrder_3 : decode cX10_greatestOrder 3 = .ok (.invokevirtual 110, 3) := decs_at DX10_greatestOrder_0 3 rfl
theorem dX10_greatestOrder_6 : decode cX10_greatestOrder 6 = .ok (.iconst 0, 1) := decs_at DX10_greatestOrder_0 4 rfl
theorem dX10_greatestOrder_7 : decode cX10_greatestOrder 7 = .ok (.istore_n 2, 1) := decs_at DX10_greatestOrder_0 5 rfl
theorem dX10_greatestOrder_8 : decode cX10_greatestOrder 8 = .ok (.iload_n 2, 1) := decs_at DX10_greatestOrder_0 6 rfl
theorem dX10_greatestOrder_9 : decode cX10_greatestOrder 9 = .ok (.sipush 720, 3) := decs_at DX10_greatestOrder_0 7 rfl
theorem dX10_greatestOrder_12 : decode cX10_greatestOrder 12 = .ok (.if_icmp .ge 51, 3) := decs_at DX10_greatestOrder_0 8 rfl
theorem dX10_greatestOrder_15 : decode cX10_greatestOrder 15 = .ok (.aload_n 0, 1) := decs_at DX10_greatestOrder_0 9 rfl
theorem dX10_greatestOrder_16 : decode cX10_greatestOrder 16 = .ok (.invokevirtual 116, 3) := decs_at DX10_greatestOrder_0 10 rfl
theorem dX10_greatestOrder_19 : decode cX10_greatestOrder 19 = .ok (.aload_n 0, 1) := decs_at DX10_greatestOrder_0 11 rfl
theorem dX10_greatestOrder_20 : decode cX10_greatestOrder 20 = .ok (.ldc 109, 2) := decs_at DX10_greatestOrder_0 12 rfl
theorem dX10_greatestOrder_22 : decode cX10_greatestOrder 22 = .ok (.invokevirtual 119, 3) := decs_at DX10_greatestOrder_0 13 rfl
theorem dX10_greatestOrder_25 : decode cX10_greatestOrder 25 = .ok (.istore_n 3, 1) := decs_at DX10_greatestOrder_0 14 rfl
theorem dX10_greatestOrder_26 : decode cX10_greatestOrder 26 = .ok (.iload_n 3, 1) := decs_at DX10_greatestOrder_0 15 rfl
theorem dX10_greatestOrder_27 : decode cX10_greatestOrder 27 = .ok (.iconst (-1), 1) := decs_at DX10_greatestOrder_0 16 rfl
theorem dX10_greatestOrder_28 : decode cX10_greatestOrder 28 = .ok (.if_icmp .eq 8, 3) := decs_at DX10_greatestOrder_0 17 rfl
theorem dX10_greatestOrder_31 : decode cX10_greatestOrder 31 = .ok (.iload_n 3, 1) := decs_at DX10_greatestOrder_0 18 rfl
theorem dX10_greatestOrder_32 : decode cX10_greatestOrder 32 = .ok (.iload_n 1, 1) := decs_at DX10_greatestOrder_0 19 rfl
theorem dX10_greatestOrder_33 : decode cX10_greatestOrder 33 = .ok (.if_icmp .le 9, 3) := decs_at DX10_greatestOrder_0 20 rfl
theorem dX10_greatestOrder_36 : decode cX10_greatestOrder 36 = .ok (.iload_n 3, 1) := decs_at DX10_greatestOrder_0 21 rfl
theorem dX10_greatestOrder_37 : decode cX10_greatestOrder 37 = .ok (.istore_n 1, 1) := decs_at DX10_greatestOrder_0 22 rfl
theorem dX10_greatestOrder_38 : decode cX10_greatestOrder 38 = .ok (.aload_n 0, 1) := decs_at DX10_greatestOrder_0 23 rfl
theorem DX10_greatestOrder_24 : decs cX10_greatestOrder [(39, .invokevirtual 113, 3), (42, .iload_n 3, 1), (43, .iconst (-1), 1), (44, .if_icmp .eq 19, 3), (47, .aload_n 0, 1), (48, .invokevirtual 123, 3), (51, .ifCond .ne 6, 3), (54, .goto 9, 3), (57, .iinc 2 1, 3), (60, .goto (-52), 3), (63, .iload_n 1, 1), (64, .ireturn, 1)] := by unfold decs; decide +kernel
theorem dX10_greatestOrder_39 : decode cX10_greatestOrder 39 = .ok (.invokevirtual 113, 3) := decs_at DX10_greatestOrder_24 0 rfl
theorem dX10_greatestOrder_42 : decode cX10_greatestOrder 42 = .ok (.iload_n 3, 1) := decs_at DX10_greatestOrder_24 1 rfl
theorem dX10_greatestOrder_43 : decode cX10_greatestOrder 43 = .ok (.iconst (-1), 1) := decs_at DX10_greatestOrder_24 2 rfl
theorem dX10_greatestOrder_44 : decode cX10_greatestOrder 44 = .ok (.if_icmp .eq 19, 3) := decs_at DX10_greatestOrder_24 3 rfl
theorem dX10_greatestOrder_47 : decode cX10_greatestOrder 47 = .ok (.aload_n 0, 1) := decs_at DX10_greatestOrder_24 4 rfl
theorem dX10_greatestOrder_48 : decode cX10_greatestOrder 48 = .ok (.invokevirtual 123, 3) := decs_at DX10_greatestOrder_24 5 rfl
theorem dX10_greatestOrder_51 : decode cX10_greatestOrder 51 = .ok (.ifCond .ne 6, 3) := decs_at DX10_greatestOrder_24 6 rfl
theorem dX10_greatestOrder_54 : decode cX10_greatestOrder 54 = .ok (.goto 9, 3) := decs_at DX10_greatestOrder_24 7 rfl
theorem dX10_greatestOrder_57 : decode cX10_greatestOrder 57 = .ok (.iinc 2 1, 3) := decs_at DX10_greatestOrder_24 8 rfl
theorem dX10_greatestOrder_60 : decode cX10_greatestOrder 60 = .ok (.goto (-52), 3) := decs_at DX10_greatestOrder_24 9 rfl
theorem dX10_greatestOrder_63 : decode cX10_greatestOrder 63 = .ok (.iload_n 1, 1) := decs_at DX10_greatestOrder_24 10 rfl
theorem dX10_greatestOrder_64 : decode cX10_greatestOrder 64 = .ok (.ireturn, 1) := decs_at DX10_greatestOrder_24 11 rfl
theorem DX10_bestAt_0 : decs cX10_bestAt [(0, .iload_n 1, 1), (1, .ifCond .lt 26, 3), (4, .iload_n 1, 1), (5, .aload_n 0, 1), (6, .getfield 45, 3), (9, .if_icmp .ge 18, 3), (12, .iload_n 1, 1), (13, .bipush 6, 2), (15, .if_icmp .ge 12, 3), (18, .aload_n 0, 1), (19, .getfield 42, 3), (22, .iload_n 1, 1), (23, .iaload, 1), (24, .goto 4, 3), (27, .iconst (-1), 1), (28, .ireturn, 1)] := by unfold decs; decide +kernel
theorem dX10_bestAt_0 : decode cX10_bestAt 0 = .ok (.iload_n 1, 1) := decs_at DX10_bestAt_0 0 rfl
theorem dX10_bestAt_1 : decode cX10_bestAt 1 = .ok (.ifCond .lt 26, 3) := decs_at DX10_bestAt_0 1 rfl
theorem dX10_bestAt_4 : decode cX10_bestAt 4 = .ok (.iload_n 1, 1) := decs_at DX10_bestAt_0 2 rfl
theorem dX10_bestAt_5 : decode cX10_bestAt 5 = .ok (.aload_n 0, 1) := decs_at DX10_bestAt_0 3 rfl
theorem dX10_bestAt_6 : decode cX10_bestAt 6 = .ok (.getfield 45, 3) := decs_at DX10_bestAt_0 4 rfl
theorem dX10_bestAt_9 : decode cX10_bestAt 9 = .ok (.if_icmp .ge 18, 3) := decs_at DX10_bestAt_0 5 rfl
theorem dX10_bestAt_12 : decode cX10_bestAt 12 = .ok (.iload_n 1, 1) := decs_at DX10_bestAt_0 6 rfl
theorem dX10_bestAt_13 : decode cX10_bestAt 13 = .ok (.bipush 6, 2) := decs_at DX10_bestAt_0 7 rfl
theorem dX10_bestAt_15 : decode cX10_bestAt 15 = .ok (.if_icmp .ge 12, 3) := decs_at DX10_bestAt_0 8 rfl
theorem dX10_bestAt_18 : decode cX10_bestAt 18 = .ok (.aload_n 0, 1) := decs_at DX10_bestAt_0 9 rfl
theorem dX10_bestAt_19 : decode cX10_bestAt 19 = .ok (.getfield 42, 3) := decs_at DX10_bestAt_0 10 rfl
theorem dX10_bestAt_22 : decode cX10_bestAt 22 = .ok (.iload_n 1, 1) := decs_at DX10_bestAt_0 11 rfl
theorem dX10_bestAt_23 : decode cX10_bestAt 23 = .ok (.iaload, 1) := decs_at DX10_bestAt_0 12 rfl
theorem dX10_bestAt_24 : decode cX10_bestAt 24 = .ok (.goto 4, 3) := decs_at DX10_bestAt_0 13 rfl
theorem dX10_bestAt_27 : decode cX10_bestAt 27 = .ok (.iconst (-1), 1) := decs_at DX10_bestAt_0 14 rfl
theorem dX10_bestAt_28 : decode cX10_bestAt 28 = .ok (.ireturn, 1) := decs_at DX10_bestAt_0 15 rfl
theorem DX10_firstOrder_0 : decs cX10_firstOrder [(0, .aload_n 0, 1), (1, .getfield 12, 3), (4, .aload_n 0, 1), (5, .getfield 61, 3), (8, .invokevirtual 126, 3), (11, .iconst 0, 1), (12, .istore_n 1, 1), (13, .iload_n 1, 1), (14, .bipush 6, 2), (16, .if_icmp .ge 18, 3), (19, .aload_n 0, 1), (20, .getfield 38, 3), (23, .iload_n 1, 1), (24, .iload_n 1, 1), (25, .iconst 1, 1), (26, .iadd, 1), (27, .iastore, 1), (28, .iinc 1 1, 3), (31, .goto (-18), 3), (34, .return_, 1)] := by unfold decs; decide +kernel
theorem dX10_firstOrder_0 : decode cX10_firstOrder 0 = .ok (.aload_n 0, 1) := decs_at DX10_firstOrder_0 0 rfl
theorem dX10_firstOrder_1 : decode cX10_firstOrder 1 = .ok (.getfield 12, 3) := decs_at DX10_firstOrder_0 1 rfl
theorem dX10_firstOrder_4 : decode cX10_firstOrder 4 = .ok (.aload_n 0, 1) := decs_at DX10_firstOrder_0 2 rfl
theorem dX10_firstOrder_5 : decode cX10_firstOrder 5 = .ok (.getfield 61, 3) := decs_at DX10_firstOrder_0 3 rfl
theorem dX10_firstOrder_8 : decode cX10_firstOrder 8 = .ok (.invokevirtual 126, 3) := decs_at DX10_firstOrder_0 4 rfl
theorem dX10_firstOrder_11 : decode cX10_firstOrder 11 = .ok (.iconst 0, 1) := decs_at DX10_firstOrder_0 5 rfl
theorem dX10_firstOrder_12 : decode cX10_firstOrder 12 = .ok (.istore_n 1, 1) := decs_at DX10_firstOrder_0 6 rfl
theorem dX10_firstOrder_13 : decode cX10_firstOrder 13 = .ok (.iload_n 1, 1) := decs_at DX10_firstOrder_0 7 rfl
theorem dX10_firstOrder_14 : decode cX10_firstOrder 14 = .ok (.bipush 6, 2) := decs_at DX10_firstOrder_0 8 rfl
theorem dX10_firstOrder_16 : decode cX10_firstOrder 16 = .ok (.if_icmp .ge 18, 3) := decs_at DX10_firstOrder_0 9 rfl
theorem dX10_firstOrder_19 : decode cX10_firstOrder 19 = .ok (.aload_n 0, 1) := decs_at DX10_firstOrder_0 10 rfl
theorem dX10_firstOrder_20 : decode cX10_firstOrder 20 = .ok (.getfield 38, 3) := decs_at DX10_firstOrder_0 11 rfl
theorem dX10_firstOrder_23 : decode cX10_firstOrder 23 = .ok (.iload_n 1, 1) := decs_at DX10_firstOrder_0 12 rfl
theorem dX10_firstOrder_24 : decode cX10_firstOrder 24 = .ok (.iload_n 1, 1) := decs_at DX10_firstOrder_0 13 rfl
theorem dX10_firstOrder_25 : decode cX10_firstOrder 25 = .ok (.iconst 1, 1) := decs_at DX10_firstOrder_0 14 rfl
theorem dX10_firstOrder_26 : decode cX10_firstOrder 26 = .ok (.iadd, 1) := decs_at DX10_firstOrder_0 15 rfl
theorem dX10_firstOrder_27 : decode cX10_firstOrder 27 = .ok (.iastore, 1) := decs_at DX10_firstOrder_0 16 rfl
theorem dX10_firstOrder_28 : decode cX10_firstOrder 28 = .ok (.iinc 1 1, 3) := decs_at DX10_firstOrder_0 17 rfl
theorem dX10_firstOrder_31 : decode cX10_firstOrder 31 = .ok (.goto (-18), 3) := decs_at DX10_firstOrder_0 18 rfl
theorem dX10_firstOrder_34 : decode cX10_firstOrder 34 = .ok (.return_, 1) := decs_at DX10_firstOrder_0 19 rfl
theorem DX10_keepOrder_0 : decs cX10_keepOrder [(0, .aload_n 0, 1), (1, .aload_n 0, 1), (2, .getfield 61, 3), (5, .getfield 128, 3), (8, .putfield 45, 3), (11, .aload_n 0, 1), (12, .getfield 38, 3), (15, .iconst 0, 1), (16, .aload_n 0, 1), (17, .getfield 42, 3), (20, .iconst 0, 1), (21, .bipush 6, 2), (23, .invokestatic 131, 3), (26, .return_, 1)] := by unfold decs; decide +kernel
theorem dX10_keepOrder_0 : decode cX10_keepOrder 0 = .ok (.aload_n 0, 1) := decs_at DX10_keepOrder_0 0 rfl
theorem dX10_keepOrder_1 : decode cX10_keepOrder 1 = .ok (.aload_n 0, 1) := decs_at DX10_keepOrder_0 1 rfl
theorem dX10_keepOrder_2 : decode cX10_keepOrder 2 = .ok (.getfield 61, 3) := decs_at DX10_keepOrder_0 2 rfl
theorem dX10_keepOrder_5 : decode cX10_keepOrder 5 = .ok (.getfield 128, 3) := decs_at DX10_keepOrder_0 3 rfl
theorem dX10_keepOrder_8 : decode cX10_keepOrder 8 = .ok (.putfield 45, 3) := decs_at DX10_keepOrder_0 4 rfl
theorem dX10_keepOrder_11 : decode cX10_keepOrder 11 = .ok (.aload_n 0, 1) := decs_at DX10_keepOrder_0 5 rfl
theorem dX10_keepOrder_12 : decode cX10_keepOrder 12 = .ok (.getfield 38, 3) := decs_at DX10_keepOrder_0 6 rfl
theorem dX10_keepOrder_15 : decode cX10_keepOrder 15 = .ok (.iconst 0, 1) := decs_at DX10_keepOrder_0 7 rfl
theorem dX10_keepOrder_16 : decode cX10_keepOrder 16 = .ok (.aload_n 0, 1) := decs_at DX10_keepOrder_0 8 rfl
theorem dX10_keepOrder_17 : decode cX10_keepOrder 17 = .ok (.getfield 42, 3) := decs_at DX10_keepOrder_0 9 rfl
theorem dX10_keepOrder_20 : decode cX10_keepOrder 20 = .ok (.iconst 0, 1) := decs_at DX10_keepOrder_0 10 rfl
theorem dX10_keepOrder_21 : decode cX10_keepOrder 21 = .ok (.bipush 6, 2) := decs_at DX10_keepOrder_0 11 rfl
theorem dX10_keepOrder_23 : decode cX10_keepOrder 23 = .ok (.invokestatic 131, 3) := decs_at DX10_keepOrder_0 12 rfl
theorem dX10_keepOrder_26 : decode cX10_keepOrder 26 = .ok (.return_, 1) := decs_at DX10_keepOrder_0 13 rfl
theorem DX10_layOrder_0 : decs cX10_layOrder [(0, .iconst 0, 1), (1, .istore_n 1, 1), (2, .iload_n 1, 1), (3, .aload_n 0, 1), (4, .getfield 61, 3), (7, .getfield 128, 3), (10, .if_icmp .ge 35, 3), (13, .iload_n 1, 1), (14, .bipush 6, 2), (16, .if_icmp .ge 29, 3), (19, .aload_n 0, 1), (20, .getfield 12, 3), (23, .iload_n 1, 1), (24, .iconst 1, 1), (25, .iadd, 1), (26, .aload_n 0, 1), (27, .getfield 61, 3), (30, .aload_n 0, 1), (31, .getfield 38, 3), (34, .iload_n 1, 1), (35, .iaload, 1), (36, .invokevirtual 137, 3), (39, .iinc 1 1, 3), (42, .goto (-40), 3)] := by unfold decs; decide +kernel
theorem dX10_layOrder_0 : decode cX10_layOrder 0 = .ok (.iconst 0, 1) := decs_at DX10_layOrder_0 0 rfl
theorem dX10_layOrder_1 : decode cX10_layOrder 1 = .ok (.istore_n 1, 1) := decs_at DX10_layOrder_0 1 rfl
theorem dX10_layOrder_2 : decode cX10_layOrder 2 = .ok (.iload_n 1, 1) := decs_at DX10_layOrder_0 2 rfl
theorem dX10_layOrder_3 : decode cX10_layOrder 3 = .ok (.aload_n 0, 1) := decs_at DX10_layOrder_0 3 rfl
theorem dX10_layOrder_4 : decode cX10_layOrder 4 = .ok (.getfield 61, 3) := decs_at DX10_layOrder_0 4 rfl
theorem dX10_layOrder_7 : decode cX10_layOrder 7 = .ok (.getfield 128, 3) := decs_at DX10_layOrder_0 5 rfl
theorem dX10_layOrder_10 : decode cX10_layOrder 10 = .ok (.if_icmp .ge 35, 3) := decs_at DX10_layOrder_0 6 rfl
theorem dX10_layOrder_13 : decode cX10_layOrder 13 = .ok (.iload_n 1, 1) := decs_at DX10_layOrder_0 7 rfl
theorem dX10_layOrder_14 : decode cX10_layOrder 14 = .ok (.bipush 6, 2) := decs_at DX10_layOrder_0 8 rfl
theorem dX10_layOrder_16 : decode cX10_layOrder 16 = .ok (.if_icmp .ge 29, 3) := decs_at DX10_layOrder_0 9 rfl
theorem dX10_layOrder_19 : decode cX10_layOrder 19 = .ok (.aload_n 0, 1) := decs_at DX10_layOrder_0 10 rfl
theorem dX10_layOrder_20 : decode cX10_layOrder 20 = .ok (.getfield 12, 3) := decs_at DX10_layOrder_0 11 rfl
theorem dX10_layOrder_23 : decode cX10_layOrder 23 = .ok (.iload_n 1, 1) := decs_at DX10_layOrder_0 12 rfl
theorem dX10_layOrder_24 : decode cX10_layOrder 24 = .ok (.iconst 1, 1) := decs_at DX10_layOrder_0 13 rfl
theorem dX10_layOrder_25 : decode cX10_layOrder 25 = .ok (.iadd, 1) := decs_at DX10_layOrder_0 14 rfl
theorem dX10_layOrder_26 : decode cX10_layOrder 26 = .ok (.aload_n 0, 1) := decs_at DX10_layOrder_0 15 rfl
theorem dX10_layOrder_27 : decode cX10_layOrder 27 = .ok (.getfield 61, 3) := decs_at DX10_layOrder_0 16 rfl
theorem dX10_layOrder_30 : decode cX10_layOrder 30 = .ok (.aload_n 0, 1) := decs_at DX10_layOrder_0 17 rfl
theorem dX10_layOrder_31 : decode cX10_layOrder 31 = .ok (.getfield 38, 3) := decs_at DX10_layOrder_0 18 rfl
theorem dX10_layOrder_34 : decode cX10_layOrder 34 = .ok (.iload_n 1, 1) := decs_at DX10_layOrder_0 19 rfl
theorem dX10_layOrder_35 : decode cX10_layOrder 35 = .ok (.iaload, 1) := decs_at DX10_layOrder_0 20 rfl
theorem dX10_layOrder_36 : decode cX10_layOrder 36 = .ok (.invokevirtual 137, 3) := decs_at DX10_layOrder_0 21 rfl
theorem dX10_layOrder_39 : decode cX10_layOrder 39 = .ok (.iinc 1 1, 3) := decs_at DX10_layOrder_0 22 rfl
theorem dX10_layOrder_42 : decode cX10_layOrder 42 = .ok (.goto (-40), 3) := decs_at DX10_layOrder_0 23 rfl
theorem DX10_layOrder_24 : decs cX10_layOrder [(45, .return_, 1)] := by unfold decs; decide +kernel
theorem dX10_layOrder_45 : decode cX10_layOrder 45 = .ok (.return_, 1) := decs_at DX10_layOrder_24 0 rfl
theorem DX10_spanOfBent_0 : decs cX10_spanOfBent [(0, .aload_n 0, 1), (1, .getfield 21, 3), (4, .aload_n 0, 1), (5, .getfield 12, 3), (8, .invokevirtual 68, 3), (11, .aload_n 0, 1), (12, .getfield 31, 3), (15, .aload_n 0, 1), (16, .getfield 52, 3), (19, .aload_n 0, 1), (20, .getfield 55, 3), (23, .aload_n 0, 1), (24, .getfield 58, 3), (27, .invokevirtual 72, 3), (30, .aload_n 0, 1), (31, .getfield 31, 3), (34, .iload_n 1, 1), (35, .aload_n 0, 1), (36, .getfield 12, 3), (39, .aload_n 0, 1), (40, .getfield 64, 3), (43, .aload_n 0, 1), (44, .getfield 21, 3), (47, .invokevirtual 93, 3)] := by unfold decs; decide +kernel
theorem dX10_spanOfBent_0 : decode cX10_spanOfBent 0 = .ok (.aload_n 0, 1) := decs_at DX10_spanOfBent_0 0 rfl
theorem dX10_spanOfBent_1 : decode cX10_spanOfBent 1 = .ok (.getfield 21, 3) := decs_at DX10_spanOfBent_0 1 rfl
theorem dX10_spanOfBent_4 : decode cX10_spanOfBent 4 = .ok (.aload_n 0, 1) := decs_at DX10_spanOfBent_0 2 rfl
theorem dX10_spanOfBent_5 : decode cX10_spanOfBent 5 = .ok (.getfield 12, 3) := decs_at DX10_spanOfBent_0 3 rfl
theorem dX10_spanOfBent_8 : decode cX10_spanOfBent 8 = .ok (.invokevirtual 68, 3) := decs_at DX10_spanOfBent_0 4 rfl
theorem dX10_spanOfBent_11 : decode cX10_spanOfBent 11 = .ok (.aload_n 0, 1) := decs_at DX10_spanOfBent_0 5 rfl
theorem dX10_spanOfBent_12 : decode cX10_spanOfBent 12 = .ok (.getfield 31, 3) := decs_at DX10_spanOfBent_0 6 rfl
theorem dX10_spanOfBent_15 : decode cX10_spanOfBent 15 = .ok (.aload_n 0, 1) := decs_at DX10_spanOfBent_0 7 rfl
theorem dX10_spanOfBent_16 : decode cX10_spanOfBent 16 = .ok (.getfield 52, 3) := decs_at DX10_spanOfBent_0 8 rfl
theorem dX10_spanOfBent_19 : decode cX10_spanOfBent 19 = .ok (.aload_n 0, 1) := decs_at DX10_spanOfBent_0 9 rfl
theorem dX10_spanOfBent_20 : decode cX10_spanOfBent 20 = .ok (.getfield 55, 3) := decs_at DX10_spanOfBent_0 10 rfl
theorem dX10_spanOfBent_23 : decode cX10_spanOfBent 23 = .ok (.aload_n 0, 1) := decs_at DX10_spanOfBent_0 11 rfl
theorem dX10_spanOfBent_24 : decode cX10_spanOfBent 24 = .ok (.getfield 58, 3) := decs_at DX10_spanOfBent_0 12 rfl
theorem dX10_spanOfBent_27 : decode cX10_spanOfBent 27 = .ok (.invokevirtual 72, 3) := decs_at DX10_spanOfBent_0 13 rfl
theorem dX10_spanOfBent_30 : decode cX10_spanOfBent 30 = .ok (.aload_n 0, 1) := decs_at DX10_spanOfBent_0 14 rfl
theorem dX10_spanOfBent_31 : decode cX10_spanOfBent 31 = .ok (.getfield 31, 3) := decs_at DX10_spanOfBent_0 15 rfl
theorem dX10_spanOfBent_34 : decode cX10_spanOfBent 34 = .ok (.iload_n 1, 1) := decs_at DX10_spanOfBent_0 16 rfl
theorem dX10_spanOfBent_35 : decode cX10_spanOfBent 35 = .ok (.aload_n 0, 1) := decs_at DX10_spanOfBent_0 17 rfl
theorem dX10_spanOfBent_36 : decode cX10_spanOfBent 36 = .ok (.getfield 12, 3) := decs_at DX10_spanOfBent_0 18 rfl
theorem dX10_spanOfBent_39 : decode cX10_spanOfBent 39 = .ok (.aload_n 0, 1) := decs_at DX10_spanOfBent_0 19 rfl
theorem dX10_spanOfBent_40 : decode cX10_spanOfBent 40 = .ok (.getfield 64, 3) := decs_at DX10_spanOfBent_0 20 rfl
theorem dX10_spanOfBent_43 : decode cX10_spanOfBent 43 = .ok (.aload_n 0, 1) := decs_at DX10_spanOfBent_0 21 rfl
theorem dX10_spanOfBent_44 : decode cX10_spanOfBent 44 = .ok (.getfield 21, 3) := decs_at DX10_spanOfBent_0 22 rfl
theorem dX10_spanOfBent_47 : decode cX10_spanOfBent 47 = .ok (.invokevirtual 93, 3) := decs_at DX10_spanOfBent_0 23 rfl
theorem DX10_spanOfBent_24 : decs cX10_spanOfBent [(50, .ireturn, 1)] := by unfold decs; decide +kernel
theorem dX10_spanOfBent_50 : decode cX10_spanOfBent 50 = .ok (.ireturn, 1) := decs_at DX10_spanOfBent_24 0 rfl
theorem DX10_nextOrder_0 : decs cX10_nextOrder [(0, .aload_n 0, 1), (1, .getfield 61, 3), (4, .getfield 128, 3), (7, .bipush 6, 2), (9, .invokestatic 141, 3), (12, .istore_n 1, 1), (13, .iload_n 1, 1), (14, .iconst 2, 1), (15, .isub, 1), (16, .istore_n 2, 1), (17, .iload_n 2, 1), (18, .ifCond .lt 31, 3), (21, .iload_n 2, 1), (22, .iconst 5, 1), (23, .if_icmp .ge 26, 3), (26, .aload_n 0, 1), (27, .getfield 38, 3), (30, .iload_n 2, 1), (31, .iaload, 1), (32, .aload_n 0, 1), (33, .getfield 38, 3), (36, .iload_n 2, 1), (37, .iconst 1, 1), (38, .iadd, 1)] := by unfold decs; decide +kernel
theorem dX10_nextOrder_0 : decode cX10_nextOrder 0 = .ok (.aload_n 0, 1) := decs_at DX10_nextOrder_0 0 rfl
theorem dX10_nextOrder_1 : decode cX10_nextOrder 1 = .ok (.getfield 61, 3) := decs_at DX10_nextOrder_0 1 rfl
theorem dX10_nextOrder_4 : decode cX10_nextOrder 4 = .ok (.getfield 128, 3) := decs_at DX10_nextOrder_0 2 rfl
theorem dX10_nextOrder_7 : decode cX10_nextOrder 7 = .ok (.bipush 6, 2) := decs_at DX10_nextOrder_0 3 rfl
theorem dX10_nextOrder_9 : decode cX10_nextOrder 9 = .ok (.invokestatic 141, 3) := decs_at DX10_nextOrder_0 4 rfl
theorem dX10_nextOrder_12 : decode cX10_nextOrder 12 = .ok (.istore_n 1, 1) := decs_at DX10_nextOrder_0 5 rfl
theorem dX10_nextOrder_13 : decode cX10_nextOrder 13 = .ok (.iload_n 1, 1) := decs_at DX10_nextOrder_0 6 rfl
theorem dX10_nextOrder_14 : decode cX10_nextOrder 14 = .ok (.iconst 2, 1) := decs_at DX10_nextOrder_0 7 rfl
theorem dX10_nextOrder_15 : decode cX10_nextOrder 15 = .ok (.isub, 1) := decs_at DX10_nextOrder_0 8 rfl
theorem dX10_nextOrder_16 : decode cX10_nextOrder 16 = .ok (.istore_n 2, 1) := decs_at DX10_nextOrder_0 9 rfl
theorem dX10_nextOrder_17 : decode cX10_nextOrder 17 = .ok (.iload_n 2, 1) := decs_at DX10_nextOrder_0 10 rfl
theorem dX10_nextOrder_18 : decode cX10_nextOrder 18 = .ok (.ifCond .lt 31, 3) := decs_at DX10_nextOrder_0 11 rfl
theorem dX10_nextOrder_21 : decode cX10_nextOrder 21 = .ok (.iload_n 2, 1) := decs_at DX10_nextOrder_0 12 rfl
theorem dX10_nextOrder_22 : decode cX10_nextOrder 22 = .ok (.iconst 5, 1) := decs_at DX10_nextOrder_0 13 rfl
theorem dX10_nextOrder_23 : decode cX10_nextOrder 23 = .ok (.if_icmp .ge 26, 3) := decs_at DX10_nextOrder_0 14 rfl
theorem dX10_nextOrder_26 : decode cX10_nextOrder 26 = .ok (.aload_n 0, 1) := decs_at DX10_nextOrder_0 15 rfl
theorem dX10_nextOrder_27 : decode cX10_nextOrder 27 = .ok (.getfield 38, 3) := decs_at DX10_nextOrder_0 16 rfl
theorem dX10_nextOrder_30 : decode cX10_nextOrder 30 = .ok (.iload_n 2, 1) := decs_at DX10_nextOrder_0 17 rfl
theorem dX10_nextOrder_31 : decode cX10_nextOrder 31 = .ok (.iaload, 1) := decs_at DX10_nextOrder_0 18 rfl
theorem dX10_nextOrder_32 : decode cX10_nextOrder 32 = .ok (.aload_n 0, 1) := decs_at DX10_nextOrder_0 19 rfl
theorem dX10_nextOrder_33 : decode cX10_nextOrder 33 = .ok (.getfield 38, 3) := decs_at DX10_nextOrder_0 20 rfl
theorem dX10_nextOrder_36 : decode cX10_nextOrder 36 = .ok (.iload_n 2, 1) := decs_at DX10_nextOrder_0 21 rfl
theorem dX10_nextOrder_37 : decode cX10_nextOrder 37 = .ok (.iconst 1, 1) := decs_at DX10_nextOrder_0 22 rfl
theorem dX10_nextOrder_38 : decode cX10_nextOrder 38 = .ok (.iadd, 1) := decs_at DX10_nextOrder_0 23 rfl
theorem DX10_nextOrder_24 : decs cX10_nextOrder [(39, .iaload, 1), (40, .if_icmp .le 9, 3), (43, .iinc 2 (-1), 3), (46, .goto (-29), 3), (49, .iload_n 2, 1), (50, .ifCond .ge 5, 3), (53, .iconst 0, 1), (54, .ireturn, 1), (55, .iload_n 1, 1), (56, .iconst 1, 1), (57, .isub, 1), (58, .istore_n 3, 1), (59, .iload_n 3, 1), (60, .iload_n 2, 1), (61, .if_icmp .le 30, 3), (64, .iload_n 3, 1), (65, .bipush 6, 2), (67, .if_icmp .ge 24, 3), (70, .aload_n 0, 1), (71, .getfield 38, 3), (74, .iload_n 3, 1), (75, .iaload, 1), (76, .aload_n 0, 1), (77, .getfield 38, 3)] := by unfold decs; decide +kernel
theorem dX10_nextOrder_39 : decode cX10_nextOrder 39 = .ok (.iaload, 1) := decs_at DX10_nextOrder_24 0 rfl
theorem dX10_nextOrder_40 : decode cX10_nextOrder 40 = .ok (.if_icmp .le 9, 3) := decs_at DX10_nextOrder_24 1 rfl
theorem dX10_nextOrder_43 : decode cX10_nextOrder 43 = .ok (.iinc 2 (-1), 3) := decs_at DX10_nextOrder_24 2 rfl
theorem dX10_nextOrder_46 : decode cX10_nextOrder 46 = .ok (.goto (-29), 3) := decs_at DX10_nextOrder_24 3 rfl
theorem dX10_nextOrder_49 : decode cX10_nextOrder 49 = .ok (.iload_n 2, 1) := decs_at DX10_nextOrder_24 4 rfl
theorem dX10_nextOrder_50 : decode cX10_nextOrder 50 = .ok (.ifCond .ge 5, 3) := decs_at DX10_nextOrder_24 5 rfl
theorem dX10_nextOrder_53 : decode cX10_nextOrder 53 = .ok (.iconst 0, 1) := decs_at DX10_nextOrder_24 6 rfl
theorem dX10_nextOrder_54 : decode cX10_nextOrder 54 = .ok (.ireturn, 1) := decs_at DX10_nextOrder_24 7 rfl
theorem dX10_nextOrder_55 : decode cX10_nextOrder 55 = .ok (.iload_n 1, 1) := decs_at DX10_nextOrder_24 8 rfl
theorem dX10_nextOrder_56 : decode cX10_nextOrder 56 = .ok (.iconst 1, 1) := decs_at DX10_nextOrder_24 9 rfl
theorem dX10_nextOrder_57 : decode cX10_nextOrder 57 = .ok (.isub, 1) := decs_at DX10_nextOrder_24 10 rfl
theorem dX10_nextOrder_58 : decode cX10_nextOrder 58 = .ok (.istore_n 3, 1) := decs_at DX10_nextOrder_24 11 rfl
theorem dX10_nextOrder_59 : decode cX10_nextOrder 59 = .ok (.iload_n 3, 1) := decs_at DX10_nextOrder_24 12 rfl
theorem dX10_nextOrder_60 : decode cX10_nextOrder 60 = .ok (.iload_n 2, 1) := decs_at DX10_nextOrder_24 13 rfl
theorem dX10_nextOrder_61 : decode cX10_nextOrder 61 = .ok (.if_icmp .le 30, 3) := decs_at DX10_nextOrder_24 14 rfl
theorem dX10_nextOrder_64 : decode cX10_nextOrder 64 = .ok (.iload_n 3, 1) := decs_at DX10_nextOrder_24 15 rfl
theorem dX10_nextOrder_65 : decode cX10_nextOrder 65 = .ok (.bipush 6, 2) := decs_at DX10_nextOrder_24 16 rfl
theorem dX10_nextOrder_67 : decode cX10_nextOrder 67 = .ok (.if_icmp .ge 24, 3) := decs_at DX10_nextOrder_24 17 rfl
theorem dX10_nextOrder_70 : decode cX10_nextOrder 70 = .ok (.aload_n 0, 1) := decs_at DX10_nextOrder_24 18 rfl
theorem dX10_nextOrder_71 : decode cX10_nextOrder 71 = .ok (.getfield 38, 3) := decs_at DX10_nextOrder_24 19 rfl
theorem dX10_nextOrder_74 : decode cX10_nextOrder 74 = .ok (.iload_n 3, 1) := decs_at DX10_nextOrder_24 20 rfl
theorem dX10_nextOrder_75 : decode cX10_nextOrder 75 = .ok (.iaload, 1) := decs_at DX10_nextOrder_24 21 rfl
theorem dX10_nextOrder_76 : decode cX10_nextOrder 76 = .ok (.aload_n 0, 1) := decs_at DX10_nextOrder_24 22 rfl
theorem dX10_nextOrder_77 : decode cX10_nextOrder 77 = .ok (.getfield 38, 3) := decs_at DX10_nextOrder_24 23 rfl
theorem DX10_nextOrder_48 : decs cX10_nextOrder [(80, .iload_n 2, 1), (81, .iaload, 1), (82, .if_icmp .ge 9, 3), (85, .iinc 3 (-1), 3), (88, .goto (-29), 3), (91, .aload_n 0, 1), (92, .iload_n 2, 1), (93, .iload_n 3, 1), (94, .invokevirtual 147, 3), (97, .iconst 1, 1), (98, .istore 4, 2), (100, .iload_n 2, 1), (101, .iload 4, 2), (103, .iadd, 1), (104, .iload_n 1, 1), (105, .iload 4, 2), (107, .isub, 1), (108, .if_icmp .ge 21, 3), (111, .aload_n 0, 1), (112, .iload_n 2, 1), (113, .iload 4, 2), (115, .iadd, 1), (116, .iload_n 1, 1), (117, .iload 4, 2)] := by unfold decs; decide +kernel
theorem dX10_nextOrder_80 : decode cX10_nextOrder 80 = .ok (.iload_n 2, 1) := decs_at DX10_nextOrder_48 0 rfl
theorem dX10_nextOrder_81 : decode cX10_nextOrder 81 = .ok (.iaload, 1) := decs_at DX10_nextOrder_48 1 rfl
theorem dX10_nextOrder_82 : decode cX10_nextOrder 82 = .ok (.if_icmp .ge 9, 3) := decs_at DX10_nextOrder_48 2 rfl
theorem dX10_nextOrder_85 : decode cX10_nextOrder 85 = .ok (.iinc 3 (-1), 3) := decs_at DX10_nextOrder_48 3 rfl
theorem dX10_nextOrder_88 : decode cX10_nextOrder 88 = .ok (.goto (-29), 3) := decs_at DX10_nextOrder_48 4 rfl
theorem dX10_nextOrder_91 : decode cX10_nextOrder 91 = .ok (.aload_n 0, 1) := decs_at DX10_nextOrder_48 5 rfl
theorem dX10_nextOrder_92 : decode cX10_nextOrder 92 = .ok (.iload_n 2, 1) := decs_at DX10_nextOrder_48 6 rfl
theorem dX10_nextOrder_93 : decode cX10_nextOrder 93 = .ok (.iload_n 3, 1) := decs_at DX10_nextOrder_48 7 rfl
theorem dX10_nextOrder_94 : decode cX10_nextOrder 94 = .ok (.invokevirtual 147, 3) := decs_at DX10_nextOrder_48 8 rfl
theorem dX10_nextOrder_97 : decode cX10_nextOrder 97 = .ok (.iconst 1, 1) := decs_at DX10_nextOrder_48 9 rfl
theorem dX10_nextOrder_98 : decode cX10_nextOrder 98 = .ok (.istore 4, 2) := decs_at DX10_nextOrder_48 10 rfl
theorem dX10_nextOrder_100 : decode cX10_nextOrder 100 = .ok (.iload_n 2, 1) := decs_at DX10_nextOrder_48 11 rfl
theorem dX10_nextOrder_101 : decode cX10_nextOrder 101 = .ok (.iload 4, 2) := decs_at DX10_nextOrder_48 12 rfl
theorem dX10_nextOrder_103 : decode cX10_nextOrder 103 = .ok (.iadd, 1) := decs_at DX10_nextOrder_48 13 rfl
theorem dX10_nextOrder_104 : decode cX10_nextOrder 104 = .ok (.iload_n 1, 1) := decs_at DX10_nextOrder_48 14 rfl
theorem dX10_nextOrder_105 : decode cX10_nextOrder 105 = .ok (.iload 4, 2) := decs_at DX10_nextOrder_48 15 rfl
theorem dX10_nextOrder_107 : decode cX10_nextOrder 107 = .ok (.isub, 1) := decs_at DX10_nextOrder_48 16 rfl
theorem dX10_nextOrder_108 : decode cX10_nextOrder 108 = .ok (.if_icmp .ge 21, 3) := decs_at DX10_nextOrder_48 17 rfl
theorem dX10_nextOrder_111 : decode cX10_nextOrder 111 = .ok (.aload_n 0, 1) := decs_at DX10_nextOrder_48 18 rfl
theorem dX10_nextOrder_112 : decode cX10_nextOrder 112 = .ok (.iload_n 2, 1) := decs_at DX10_nextOrder_48 19 rfl
theorem dX10_nextOrder_113 : decode cX10_nextOrder 113 = .ok (.iload 4, 2) := decs_at DX10_nextOrder_48 20 rfl
theorem dX10_nextOrder_115 : decode cX10_nextOrder 115 = .ok (.iadd, 1) := decs_at DX10_nextOrder_48 21 rfl
theorem dX10_nextOrder_116 : decode cX10_nextOrder 116 = .ok (.iload_n 1, 1) := decs_at DX10_nextOrder_48 22 rfl
theorem dX10_nextOrder_117 : decode cX10_nextOrder 117 = .ok (.iload 4, 2) := decs_at DX10_nextOrder_48 23 rfl
theorem DX10_nextOrder_72 : decs cX10_nextOrder [(119, .isub, 1), (120, .invokevirtual 147, 3), (123, .iinc 4 1, 3), (126, .goto (-26), 3), (129, .iconst 1, 1), (130, .ireturn, 1)] := by unfold decs; decide +kernel
theorem dX10_nextOrder_119 : decode cX10_nextOrder 119 = .ok (.isub, 1) := decs_at DX10_nextOrder_72 0 rfl
theorem dX10_nextOrder_120 : decode cX10_nextOrder 120 = .ok (.invokevirtual 147, 3) := decs_at DX10_nextOrder_72 1 rfl
theorem dX10_nextOrder_123 : decode cX10_nextOrder 123 = .ok (.iinc 4 1, 3) := decs_at DX10_nextOrder_72 2 rfl
theorem dX10_nextOrder_126 : decode cX10_nextOrder 126 = .ok (.goto (-26), 3) := decs_at DX10_nextOrder_72 3 rfl
theorem dX10_nextOrder_129 : decode cX10_nextOrder 129 = .ok (.iconst 1, 1) := decs_at DX10_nextOrder_72 4 rfl
theorem dX10_nextOrder_130 : decode cX10_nextOrder 130 = .ok (.ireturn, 1) := decs_at DX10_nextOrder_72 5 rfl
theorem DX10_swap_0 : decs cX10_swap [(0, .iload_n 1, 1), (1, .ifCond .lt 45, 3), (4, .iload_n 1, 1), (5, .bipush 6, 2), (7, .if_icmp .ge 39, 3), (10, .iload_n 2, 1), (11, .ifCond .lt 35, 3), (14, .iload_n 2, 1), (15, .bipush 6, 2), (17, .if_icmp .ge 29, 3), (20, .aload_n 0, 1), (21, .getfield 38, 3), (24, .iload_n 1, 1), (25, .iaload, 1), (26, .istore_n 3, 1), (27, .aload_n 0, 1), (28, .getfield 38, 3), (31, .iload_n 1, 1), (32, .aload_n 0, 1), (33, .getfield 38, 3), (36, .iload_n 2, 1), (37, .iaload, 1), (38, .iastore, 1), (39, .aload_n 0, 1)] := by unfold decs; decide +kernel
theorem dX10_swap_0 : decode cX10_swap 0 = .ok (.iload_n 1, 1) := decs_at DX10_swap_0 0 rfl
theorem dX10_swap_1 : decode cX10_swap 1 = .ok (.ifCond .lt 45, 3) := decs_at DX10_swap_0 1 rfl
theorem dX10_swap_4 : decode cX10_swap 4 = .ok (.iload_n 1, 1) := decs_at DX10_swap_0 2 rfl
theorem dX10_swap_5 : decode cX10_swap 5 = .ok (.bipush 6, 2) := decs_at DX10_swap_0 3 rfl
theorem dX10_swap_7 : decode cX10_swap 7 = .ok (.if_icmp .ge 39, 3) := decs_at DX10_swap_0 4 rfl
theorem dX10_swap_10 : decode cX10_swap 10 = .ok (.iload_n 2, 1) := decs_at DX10_swap_0 5 rfl
theorem dX10_swap_11 : decode cX10_swap 11 = .ok (.ifCond .lt 35, 3) := decs_at DX10_swap_0 6 rfl
theorem dX10_swap_14 : decode cX10_swap 14 = .ok (.iload_n 2, 1) := decs_at DX10_swap_0 7 rfl
theorem dX10_swap_15 : decode cX10_swap 15 = .ok (.bipush 6, 2) := decs_at DX10_swap_0 8 rfl
theorem dX10_swap_17 : decode cX10_swap 17 = .ok (.if_icmp .ge 29, 3) := decs_at DX10_swap_0 9 rfl
theorem dX10_swap_20 : decode cX10_swap 20 = .ok (.aload_n 0, 1) := decs_at DX10_swap_0 10 rfl
theorem dX10_swap_21 : decode cX10_swap 21 = .ok (.getfield 38, 3) := decs_at DX10_swap_0 11 rfl
theorem dX10_swap_24 : decode cX10_swap 24 = .ok (.iload_n 1, 1) := decs_at DX10_swap_0 12 rfl
theorem dX10_swap_25 : decode cX10_swap 25 = .ok (.iaload, 1) := decs_at DX10_swap_0 13 rfl
theorem dX10_swap_26 : decode cX10_swap 26 = .ok (.istore_n 3, 1) := decs_at DX10_swap_0 14 rfl
theorem dX10_swap_27 : decode cX10_swap 27 = .ok (.aload_n 0, 1) := decs_at DX10_swap_0 15 rfl
theorem dX10_swap_28 : decode cX10_swap 28 = .ok (.getfield 38, 3) := decs_at DX10_swap_0 16 rfl
theorem dX10_swap_31 : decode cX10_swap 31 = .ok (.iload_n 1, 1) := decs_at DX10_swap_0 17 rfl
theorem dX10_swap_32 : decode cX10_swap 32 = .ok (.aload_n 0, 1) := decs_at DX10_swap_0 18 rfl
theorem dX10_swap_33 : decode cX10_swap 33 = .ok (.getfield 38, 3) := decs_at DX10_swap_0 19 rfl
theorem dX10_swap_36 : decode cX10_swap 36 = .ok (.iload_n 2, 1) := decs_at DX10_swap_0 20 rfl
theorem dX10_swap_37 : decode cX10_swap 37 = .ok (.iaload, 1) := decs_at DX10_swap_0 21 rfl
theorem dX10_swap_38 : decode cX10_swap 38 = .ok (.iastore, 1) := decs_at DX10_swap_0 22 rfl
theorem dX10_swap_39 : decode cX10_swap 39 = .ok (.aload_n 0, 1) := decs_at DX10_swap_0 23 rfl
theorem DX10_swap_24 : decs cX10_swap [(40, .getfield 38, 3), (43, .iload_n 2, 1), (44, .iload_n 3, 1), (45, .iastore, 1), (46, .return_, 1)] := by unfold decs; decide +kernel
theorem dX10_swap_40 : decode cX10_swap 40 = .ok (.getfield 38, 3) := decs_at DX10_swap_24 0 rfl
theorem dX10_swap_43 : decode cX10_swap 43 = .ok (.iload_n 2, 1) := decs_at DX10_swap_24 1 rfl
theorem dX10_swap_44 : decode cX10_swap 44 = .ok (.iload_n 3, 1) := decs_at DX10_swap_24 2 rfl
theorem dX10_swap_45 : decode cX10_swap 45 = .ok (.iastore, 1) := decs_at DX10_swap_24 3 rfl
theorem dX10_swap_46 : decode cX10_swap 46 = .ok (.return_, 1) := decs_at DX10_swap_24 4 rfl
theorem DX10_mostCut_0 : decs cX10_mostCut [(0, .aload_n 0, 1), (1, .invokevirtual 150, 3), (4, .istore_n 2, 1), (5, .aload_n 0, 1), (6, .getfield 12, 3), (9, .aload_n 0, 1), (10, .getfield 61, 3), (13, .invokevirtual 126, 3), (16, .iload_n 2, 1), (17, .istore_n 3, 1), (18, .iload_n 3, 1), (19, .ifCond .lt 21, 3), (22, .aload_n 0, 1), (23, .iload_n 3, 1), (24, .iload_n 2, 1), (25, .iload_n 1, 1), (26, .invokevirtual 154, 3), (29, .ifCond .eq 5, 3), (32, .iload_n 3, 1), (33, .ireturn, 1), (34, .iinc 3 (-1), 3), (37, .goto (-19), 3), (40, .iconst (-1), 1), (41, .ireturn, 1)] := by unfold decs; decide +kernel
theorem dX10_mostCut_0 : decode cX10_mostCut 0 = .ok (.aload_n 0, 1) := decs_at DX10_mostCut_0 0 rfl
theorem dX10_mostCut_1 : decode cX10_mostCut 1 = .ok (.invokevirtual 150, 3) := decs_at DX10_mostCut_0 1 rfl
theorem dX10_mostCut_4 : decode cX10_mostCut 4 = .ok (.istore_n 2, 1) := decs_at DX10_mostCut_0 2 rfl
theorem dX10_mostCut_5 : decode cX10_mostCut 5 = .ok (.aload_n 0, 1) := decs_at DX10_mostCut_0 3 rfl
theorem dX10_mostCut_6 : decode cX10_mostCut 6 = .ok (.getfield 12, 3) := decs_at DX10_mostCut_0 4 rfl
theorem dX10_mostCut_9 : decode cX10_mostCut 9 = .ok (.aload_n 0, 1) := decs_at DX10_mostCut_0 5 rfl
theorem dX10_mostCut_10 : decode cX10_mostCut 10 = .ok (.getfield 61, 3) := decs_at DX10_mostCut_0 6 rfl
theorem dX10_mostCut_13 : decode cX10_mostCut 13 = .ok (.invokevirtual 126, 3) := decs_at DX10_mostCut_0 7 rfl
theorem dX10_mostCut_16 : decode cX10_mostCut 16 = .ok (.iload_n 2, 1) := decs_at DX10_mostCut_0 8 rfl
theorem dX10_mostCut_17 : decode cX10_mostCut 17 = .ok (.istore_n 3, 1) := decs_at DX10_mostCut_0 9 rfl
theorem dX10_mostCut_18 : decode cX10_mostCut 18 = .ok (.iload_n 3, 1) := decs_at DX10_mostCut_0 10 rfl
theorem dX10_mostCut_19 : decode cX10_mostCut 19 = .ok (.ifCond .lt 21, 3) := decs_at DX10_mostCut_0 11 rfl
theorem dX10_mostCut_22 : decode cX10_mostCut 22 = .ok (.aload_n 0, 1) := decs_at DX10_mostCut_0 12 rfl
theorem dX10_mostCut_23 : decode cX10_mostCut 23 = .ok (.iload_n 3, 1) := decs_at DX10_mostCut_0 13 rfl
theorem dX10_mostCut_24 : decode cX10_mostCut 24 = .ok (.iload_n 2, 1) := decs_at DX10_mostCut_0 14 rfl
theorem dX10_mostCut_25 : decode cX10_mostCut 25 = .ok (.iload_n 1, 1) := decs_at DX10_mostCut_0 15 rfl
theorem dX10_mostCut_26 : decode cX10_mostCut 26 = .ok (.invokevirtual 154, 3) := decs_at DX10_mostCut_0 16 rfl
theorem dX10_mostCut_29 : decode cX10_mostCut 29 = .ok (.ifCond .eq 5, 3) := decs_at DX10_mostCut_0 17 rfl
theorem dX10_mostCut_32 : decode cX10_mostCut 32 = .ok (.iload_n 3, 1) := decs_at DX10_mostCut_0 18 rfl
theorem dX10_mostCut_33 : decode cX10_mostCut 33 = .ok (.ireturn, 1) := decs_at DX10_mostCut_0 19 rfl
theorem dX10_mostCut_34 : decode cX10_mostCut 34 = .ok (.iinc 3 (-1), 3) := decs_at DX10_mostCut_0 20 rfl
theorem dX10_mostCut_37 : decode cX10_mostCut 37 = .ok (.goto (-19), 3) := decs_at DX10_mostCut_0 21 rfl
theorem dX10_mostCut_40 : decode cX10_mostCut 40 = .ok (.iconst (-1), 1) := decs_at DX10_mostCut_0 22 rfl
theorem dX10_mostCut_41 : decode cX10_mostCut 41 = .ok (.ireturn, 1) := decs_at DX10_mostCut_0 23 rfl
theorem DX10_findBraked_0 : decs cX10_findBraked [(0, .iconst 0, 1), (1, .istore_n 1, 1), (2, .iconst 1, 1), (3, .istore_n 2, 1), (4, .iload_n 2, 1), (5, .aload_n 0, 1), (6, .getfield 61, 3), (9, .getfield 128, 3), (12, .if_icmp .gt 43, 3), (15, .iload_n 2, 1), (16, .bipush 10, 2), (18, .if_icmp .gt 37, 3), (21, .aload_n 0, 1), (22, .getfield 61, 3), (25, .getfield 158, 3), (28, .iload_n 2, 1), (29, .iaload, 1), (30, .ifCond .ne 19, 3), (33, .iload_n 1, 1), (34, .bipush 10, 2), (36, .if_icmp .ge 13, 3), (39, .aload_n 0, 1), (40, .getfield 49, 3), (43, .iload_n 1, 1)] := by unfold decs; decide +kernel
theorem dX10_findBraked_0 : decode cX10_findBraked 0 = .ok (.iconst 0, 1) := decs_at DX10_findBraked_0 0 rfl
theorem dX10_findBraked_1 : decode cX10_findBraked 1 = .ok (.istore_n 1, 1) := decs_at DX10_findBraked_0 1 rfl
theorem dX10_findBraked_2 : decode cX10_findBraked 2 = .ok (.iconst 1, 1) := decs_at DX10_findBraked_0 2 rfl
theorem dX10_findBraked_3 : decode cX10_findBraked 3 = .ok (.istore_n 2, 1) := decs_at DX10_findBraked_0 3 rfl
theorem dX10_findBraked_4 : decode cX10_findBraked 4 = .ok (.iload_n 2, 1) := decs_at DX10_findBraked_0 4 rfl
theorem dX10_findBraked_5 : decode cX10_findBraked 5 = .ok (.aload_n 0, 1) := decs_at DX10_findBraked_0 5 rfl
theorem dX10_findBraked_6 : decode cX10_findBraked 6 = .ok (.getfield 61, 3) := decs_at DX10_findBraked_0 6 rfl
theorem dX10_findBraked_9 : decode cX10_findBraked 9 = .ok (.getfield 128, 3) := decs_at DX10_findBraked_0 7 rfl
theorem dX10_findBraked_12 : decode cX10_findBraked 12 = .ok (.if_icmp .gt 43, 3) := decs_at DX10_findBraked_0 8 rfl
theorem dX10_findBraked_15 : decode cX10_findBraked 15 = .ok (.iload_n 2, 1) := decs_at DX10_findBraked_0 9 rfl
theorem dX10_findBraked_16 : decode cX10_findBraked 16 = .ok (.bipush 10, 2) := decs_at DX10_findBraked_0 10 rfl
theorem dX10_findBraked_18 : decode cX10_findBraked 18 = .ok (.if_icmp .gt 37, 3) := decs_at DX10_findBraked_0 11 rfl
theorem dX10_findBraked_21 : decode cX10_findBraked 21 = .ok (.aload_n 0, 1) := decs_at DX10_findBraked_0 12 rfl
theorem dX10_findBraked_22 : decode cX10_findBraked 22 = .ok (.getfield 61, 3) := decs_at DX10_findBraked_0 13 rfl
theorem dX10_findBraked_25 : decode cX10_findBraked 25 = .ok (.getfield 158, 3) := decs_at DX10_findBraked_0 14 rfl
theorem dX10_findBraked_28 : decode cX10_findBraked 28 = .ok (.iload_n 2, 1) := decs_at DX10_findBraked_0 15 rfl
theorem dX10_findBraked_29 : decode cX10_findBraked 29 = .ok (.iaload, 1) := decs_at DX10_findBraked_0 16 rfl
theorem dX10_findBraked_30 : decode cX10_findBraked 30 = .ok (.ifCond .ne 19, 3) := decs_at DX10_findBraked_0 17 rfl
theorem dX10_findBraked_33 : decode cX10_findBraked 33 = .ok (.iload_n 1, 1) := decs_at DX10_findBraked_0 18 rfl
theorem dX10_findBraked_34 : decode cX10_findBraked 34 = .ok (.bipush 10, 2) := decs_at DX10_findBraked_0 19 rfl
theorem dX10_findBraked_36 : decode cX10_findBraked 36 = .ok (.if_icmp .ge 13, 3) := decs_at DX10_findBraked_0 20 rfl
theorem dX10_findBraked_39 : decode cX10_findBraked 39 = .ok (.aload_n 0, 1) := decs_at DX10_findBraked_0 21 rfl
theorem dX10_findBraked_40 : decode cX10_findBraked 40 = .ok (.getfield 49, 3) := decs_at DX10_findBraked_0 22 rfl
theorem dX10_findBraked_43 : decode cX10_findBraked 43 = .ok (.iload_n 1, 1) := decs_at DX10_findBraked_0 23 rfl
theorem DX10_findBraked_24 : decs cX10_findBraked [(44, .iload_n 2, 1), (45, .iastore, 1), (46, .iinc 1 1, 3), (49, .iinc 2 1, 3), (52, .goto (-48), 3), (55, .iload_n 1, 1), (56, .ireturn, 1)] := by unfold decs; decide +kernel
theorem dX10_findBraked_44 : decode cX10_findBraked 44 = .ok (.iload_n 2, 1) := decs_at DX10_findBraked_24 0 rfl
theorem dX10_findBraked_45 : decode cX10_findBraked 45 = .ok (.iastore, 1) := decs_at DX10_findBraked_24 1 rfl
theorem dX10_findBraked_46 : decode cX10_findBraked 46 = .ok (.iinc 1 1, 3) := decs_at DX10_findBraked_24 2 rfl
theorem dX10_findBraked_49 : decode cX10_findBraked 49 = .ok (.iinc 2 1, 3) := decs_at DX10_findBraked_24 3 rfl
theorem dX10_findBraked_52 : decode cX10_findBraked 52 = .ok (.goto (-48), 3) := decs_at DX10_findBraked_24 4 rfl
theorem dX10_findBraked_55 : decode cX10_findBraked 55 = .ok (.iload_n 1, 1) := decs_at DX10_findBraked_24 5 rfl
theorem dX10_findBraked_56 : decode cX10_findBraked 56 = .ok (.ireturn, 1) := decs_at DX10_findBraked_24 6 rfl
theorem DX10_stopsWithout_0 : decs cX10_stopsWithout [(0, .iconst 0, 1), (1, .istore 4, 2), (3, .iload 4, 2), (5, .iconst 1, 1), (6, .iload_n 2, 1), (7, .ishl, 1), (8, .if_icmp .ge 73, 3), (11, .iload 4, 2), (13, .invokestatic 161, 3), (16, .iload_n 1, 1), (17, .if_icmp .ne 58, 3), (20, .iconst 0, 1), (21, .istore 5, 2), (23, .iload 5, 2), (25, .iload_n 2, 1), (26, .if_icmp .ge 38, 3), (29, .iload 5, 2), (31, .bipush 10, 2), (33, .if_icmp .ge 31, 3), (36, .aload_n 0, 1), (37, .getfield 12, 3), (40, .aload_n 0, 1), (41, .getfield 49, 3), (44, .iload 5, 2)] := by unfold decs; decide +kernel
theorem dX10_stopsWithout_0 : decode cX10_stopsWithout 0 = .ok (.iconst 0, 1) := decs_at DX10_stopsWithout_0 0 rfl
theorem dX10_stopsWithout_1 : decode cX10_stopsWithout 1 = .ok (.istore 4, 2) := decs_at DX10_stopsWithout_0 1 rfl
theorem dX10_stopsWithout_3 : decode cX10_stopsWithout 3 = .ok (.iload 4, 2) := decs_at DX10_stopsWithout_0 2 rfl
theorem dX10_stopsWithout_5 : decode cX10_stopsWithout 5 = .ok (.iconst 1, 1) := decs_at DX10_stopsWithout_0 3 rfl
theorem dX10_stopsWithout_6 : decode cX10_stopsWithout 6 = .ok (.iload_n 2, 1) := decs_at DX10_stopsWithout_0 4 rfl
theorem dX10_stopsWithout_7 : decode cX10_stopsWithout 7 = .ok (.ishl, 1) := decs_at DX10_stopsWithout_0 5 rfl
theorem dX10_stopsWithout_8 : decode cX10_stopsWithout 8 = .ok (.if_icmp .ge 73, 3) := decs_at DX10_stopsWithout_0 6 rfl
theorem dX10_stopsWithout_11 : decode cX10_stopsWithout 11 = .ok (.iload 4, 2) := decs_at DX10_stopsWithout_0 7 rfl
theorem dX10_stopsWithout_13 : decode cX10_stopsWithout 13 = .ok (.invokestatic 161, 3) := decs_at DX10_stopsWithout_0 8 rfl
theorem dX10_stopsWithout_16 : decode cX10_stopsWithout 16 = .ok (.iload_n 1, 1) := decs_at DX10_stopsWithout_0 9 rfl
theorem dX10_stopsWithout_17 : decode cX10_stopsWithout 17 = .ok (.if_icmp .ne 58, 3) := decs_at DX10_stopsWithout_0 10 rfl
theorem dX10_stopsWithout_20 : decode cX10_stopsWithout 20 = .ok (.iconst 0, 1) := decs_at DX10_stopsWithout_0 11 rfl
theorem dX10_stopsWithout_21 : decode cX10_stopsWithout 21 = .ok (.istore 5, 2) := decs_at DX10_stopsWithout_0 12 rfl
theorem dX10_stopsWithout_23 : decode cX10_stopsWithout 23 = .ok (.iload 5, 2) := decs_at DX10_stopsWithout_0 13 rfl
theorem dX10_stopsWithout_25 : decode cX10_stopsWithout 25 = .ok (.iload_n 2, 1) := decs_at DX10_stopsWithout_0 14 rfl
theorem dX10_stopsWithout_26 : decode cX10_stopsWithout 26 = .ok (.if_icmp .ge 38, 3) := decs_at DX10_stopsWithout_0 15 rfl
theorem dX10_stopsWithout_29 : decode cX10_stopsWithout 29 = .ok (.iload 5, 2) := decs_at DX10_stopsWithout_0 16 rfl
theorem dX10_stopsWithout_31 : decode cX10_stopsWithout 31 = .ok (.bipush 10, 2) := decs_at DX10_stopsWithout_0 17 rfl
theorem dX10_stopsWithout_33 : decode cX10_stopsWithout 33 = .ok (.if_icmp .ge 31, 3) := decs_at DX10_stopsWithout_0 18 rfl
theorem dX10_stopsWithout_36 : decode cX10_stopsWithout 36 = .ok (.aload_n 0, 1) := decs_at DX10_stopsWithout_0 19 rfl
theorem dX10_stopsWithout_37 : decode cX10_stopsWithout 37 = .ok (.getfield 12, 3) := decs_at DX10_stopsWithout_0 20 rfl
theorem dX10_stopsWithout_40 : decode cX10_stopsWithout 40 = .ok (.aload_n 0, 1) := decs_at DX10_stopsWithout_0 21 rfl
theorem dX10_stopsWithout_41 : decode cX10_stopsWithout 41 = .ok (.getfield 49, 3) := decs_at DX10_stopsWithout_0 22 rfl
theorem dX10_stopsWithout_44 : decode cX10_stopsWithout 44 = .ok (.iload 5, 2) := decs_at DX10_stopsWithout_0 23 rfl
theorem DX10_stopsWithout_24 : decs cX10_stopsWithout [(46, .iaload, 1), (47, .iconst 2, 1), (48, .iload 4, 2), (50, .iload 5, 2), (52, .ishr, 1), (53, .iconst 1, 1), (54, .iand, 1), (55, .invokevirtual 166, 3), (58, .iinc 5 1, 3), (61, .goto (-38), 3), (64, .aload_n 0, 1), (65, .iload_n 3, 1), (66, .invokevirtual 119, 3), (69, .iconst (-1), 1), (70, .if_icmp .ne 5, 3), (73, .iconst 0, 1), (74, .ireturn, 1), (75, .iinc 4 1, 3), (78, .goto (-75), 3), (81, .iconst 1, 1), (82, .ireturn, 1)] := by unfold decs; decide +kernel
theorem dX10_stopsWithout_46 : decode cX10_stopsWithout 46 = .ok (.iaload, 1) := decs_at DX10_stopsWithout_24 0 rfl
theorem dX10_stopsWithout_47 : decode cX10_stopsWithout 47 = .ok (.iconst 2, 1) := decs_at DX10_stopsWithout_24 1 rfl
theorem dX10_stopsWithout_48 : decode cX10_stopsWithout 48 = .ok (.iload 4, 2) := decs_at DX10_stopsWithout_24 2 rfl
theorem dX10_stopsWithout_50 : decode cX10_stopsWithout 50 = .ok (.iload 5, 2) := decs_at DX10_stopsWithout_24 3 rfl
theorem dX10_stopsWithout_52 : decode cX10_stopsWithout 52 = .ok (.ishr, 1) := decs_at DX10_stopsWithout_24 4 rfl
theorem dX10_stopsWithout_53 : decode cX10_stopsWithout 53 = .ok (.iconst 1, 1) := decs_at DX10_stopsWithout_24 5 rfl
theorem dX10_stopsWithout_54 : decode cX10_stopsWithout 54 = .ok (.iand, 1) := decs_at DX10_stopsWithout_24 6 rfl
theorem dX10_stopsWithout_55 : decode cX10_stopsWithout 55 = .ok (.invokevirtual 166, 3) := decs_at DX10_stopsWithout_24 7 rfl
theorem dX10_stopsWithout_58 : decode cX10_stopsWithout 58 = .ok (.iinc 5 1, 3) := decs_at DX10_stopsWithout_24 8 rfl
theorem dX10_stopsWithout_61 : decode cX10_stopsWithout 61 = .ok (.goto (-38), 3) := decs_at DX10_stopsWithout_24 9 rfl
theorem dX10_stopsWithout_64 : decode cX10_stopsWithout 64 = .ok (.aload_n 0, 1) := decs_at DX10_stopsWithout_24 10 rfl
theorem dX10_stopsWithout_65 : decode cX10_stopsWithout 65 = .ok (.iload_n 3, 1) := decs_at DX10_stopsWithout_24 11 rfl
theorem dX10_stopsWithout_66 : decode cX10_stopsWithout 66 = .ok (.invokevirtual 119, 3) := decs_at DX10_stopsWithout_24 12 rfl
theorem dX10_stopsWithout_69 : decode cX10_stopsWithout 69 = .ok (.iconst (-1), 1) := decs_at DX10_stopsWithout_24 13 rfl
theorem dX10_stopsWithout_70 : decode cX10_stopsWithout 70 = .ok (.if_icmp .ne 5, 3) := decs_at DX10_stopsWithout_24 14 rfl
theorem dX10_stopsWithout_73 : decode cX10_stopsWithout 73 = .ok (.iconst 0, 1) := decs_at DX10_stopsWithout_24 15 rfl
theorem dX10_stopsWithout_74 : decode cX10_stopsWithout 74 = .ok (.ireturn, 1) := decs_at DX10_stopsWithout_24 16 rfl
theorem dX10_stopsWithout_75 : decode cX10_stopsWithout 75 = .ok (.iinc 4 1, 3) := decs_at DX10_stopsWithout_24 17 rfl
theorem dX10_stopsWithout_78 : decode cX10_stopsWithout 78 = .ok (.goto (-75), 3) := decs_at DX10_stopsWithout_24 18 rfl
theorem dX10_stopsWithout_81 : decode cX10_stopsWithout 81 = .ok (.iconst 1, 1) := decs_at DX10_stopsWithout_24 19 rfl
theorem dX10_stopsWithout_82 : decode cX10_stopsWithout 82 = .ok (.ireturn, 1) := decs_at DX10_stopsWithout_24 20 rfl
theorem DX11_feed_0 : decs cX11_feed [(0, .aload_n 0, 1), (1, .getfield 12, 3), (4, .bipush 20, 2), (6, .invokevirtual 104, 3), (9, .ifCond .ne 5, 3), (12, .iconst (-1), 1), (13, .ireturn, 1), (14, .aload_n 0, 1), (15, .getfield 12, 3), (18, .iload_n 1, 1), (19, .invokevirtual 108, 3), (22, .aload_n 0, 1), (23, .getfield 12, 3), (26, .iload_n 2, 1), (27, .invokevirtual 108, 3), (30, .aload_n 0, 1), (31, .getfield 12, 3), (34, .iload_n 3, 1), (35, .invokevirtual 108, 3), (38, .aload_n 0, 1), (39, .getfield 12, 3), (42, .iload 4, 2), (44, .invokevirtual 108, 3), (47, .aload_n 0, 1)] := by unfold decs; decide +kernel
theorem dX11_feed_0 : decode cX11_feed 0 = .ok (.aload_n 0, 1) := decs_at DX11_feed_0 0 rfl
theorem dX11_feed_1 : decode cX11_feed 1 = .ok (.getfield 12, 3) := decs_at DX11_feed_0 1 rfl
theorem dX11_feed_4 : decode cX11_feed 4 = .ok (.bipush 20, 2) := decs_at DX11_feed_0 2 rfl
theorem dX11_feed_6 : decode cX11_feed 6 = .ok (.invokevirtual 104, 3) := decs_at DX11_feed_0 3 rfl
theorem dX11_feed_9 : decode cX11_feed 9 = .ok (.ifCond .ne 5, 3) := decs_at DX11_feed_0 4 rfl
theorem dX11_feed_12 : decode cX11_feed 12 = .ok (.iconst (-1), 1) := decs_at DX11_feed_0 5 rfl
theorem dX11_feed_13 : decode cX11_feed 13 = .ok (.ireturn, 1) := decs_at DX11_feed_0 6 rfl
theorem dX11_feed_14 : decode cX11_feed 14 = .ok (.aload_n 0, 1) := decs_at DX11_feed_0 7 rfl
theorem dX11_feed_15 : decode cX11_feed 15 = .ok (.getfield 12, 3) := decs_at DX11_feed_0 8 rfl
theorem dX11_feed_18 : decode cX11_feed 18 = .ok (.iload_n 1, 1) := decs_at DX11_feed_0 9 rfl
theorem dX11_feed_19 : decode cX11_feed 19 = .ok (.invokevirtual 108, 3) := decs_at DX11_feed_0 10 rfl
theorem dX11_feed_22 : decode cX11_feed 22 = .ok (.aload_n 0, 1) := decs_at DX11_feed_0 11 rfl
theorem dX11_feed_23 : decode cX11_feed 23 = .ok (.getfield 12, 3) := decs_at DX11_feed_0 12 rfl
theorem dX11_feed_26 : decode cX11_feed 26 = .ok (.iload_n 2, 1) := decs_at DX11_feed_0 13 rfl
theorem dX11_feed_27 : decode cX11_feed 27 = .ok (.invokevirtual 108, 3) := decs_at DX11_feed_0 14 rfl
theorem dX11_feed_30 : decode cX11_feed 30 = .ok (.aload_n 0, 1) := decs_at DX11_feed_0 15 rfl
theorem dX11_feed_31 : decode cX11_feed 31 = .ok (.getfield 12, 3) := decs_at DX11_feed_0 16 rfl
theorem dX11_feed_34 : decode cX11_feed 34 = .ok (.iload_n 3, 1) := decs_at DX11_feed_0 17 rfl
theorem dX11_feed_35 : decode cX11_feed 35 = .ok (.invokevirtual 108, 3) := decs_at DX11_feed_0 18 rfl
theorem dX11_feed_38 : decode cX11_feed 38 = .ok (.aload_n 0, 1) := decs_at DX11_feed_0 19 rfl
theorem dX11_feed_39 : decode cX11_feed 39 = .ok (.getfield 12, 3) := decs_at DX11_feed_0 20 rfl
theorem dX11_feed_42 : decode cX11_feed 42 = .ok (.iload 4, 2) := decs_at DX11_feed_0 21 rfl
theorem dX11_feed_44 : decode cX11_feed 44 = .ok (.invokevirtual 108, 3) := decs_at DX11_feed_0 22 rfl
theorem dX11_feed_47 : decode cX11_feed 47 = .ok (.aload_n 0, 1) := decs_at DX11_feed_0 23 rfl
theorem DX11_feed_24 : decs cX11_feed [(48, .getfield 12, 3), (51, .iload 5, 2), (53, .invokevirtual 108, 3), (56, .aload_n 0, 1), (57, .getfield 12, 3), (60, .getfield 112, 3), (63, .ireturn, 1)] := by unfold decs; decide +kernel
theorem dX11_feed_48 : decode cX11_feed 48 = .ok (.getfield 12, 3) := decs_at DX11_feed_24 0 rfl
theorem dX11_feed_51 : decode cX11_feed 51 = .ok (.iload 5, 2) := decs_at DX11_feed_24 1 rfl
theorem dX11_feed_53 : decode cX11_feed 53 = .ok (.invokevirtual 108, 3) := decs_at DX11_feed_24 2 rfl
theorem dX11_feed_56 : decode cX11_feed 56 = .ok (.aload_n 0, 1) := decs_at DX11_feed_24 3 rfl
theorem dX11_feed_57 : decode cX11_feed 57 = .ok (.getfield 12, 3) := decs_at DX11_feed_24 4 rfl
theorem dX11_feed_60 : decode cX11_feed 60 = .ok (.getfield 112, 3) := decs_at DX11_feed_24 5 rfl
theorem dX11_feed_63 : decode cX11_feed 63 = .ok (.ireturn, 1) := decs_at DX11_feed_24 6 rfl
theorem DX11_end_0 : decs cX11_end [(0, .aload_n 0, 1), (1, .getfield 12, 3), (4, .iload_n 1, 1), (5, .invokevirtual 115, 3), (8, .ireturn, 1)] := by unfold decs; decide +kernel
theorem dX11_end_0 : decode cX11_end 0 = .ok (.aload_n 0, 1) := decs_at DX11_end_0 0 rfl
theorem dX11_end_1 : decode cX11_end 1 = .ok (.getfield 12, 3) := decs_at DX11_end_0 1 rfl
theorem dX11_end_4 : decode cX11_end 4 = .ok (.iload_n 1, 1) := decs_at DX11_end_0 2 rfl
theorem dX11_end_5 : decode cX11_end 5 = .ok (.invokevirtual 115, 3) := decs_at DX11_end_0 3 rfl
theorem dX11_end_8 : decode cX11_end 8 = .ok (.ireturn, 1) := decs_at DX11_end_0 4 rfl
theorem DX11_train_0 : decs cX11_train [(0, .aload_n 0, 1), (1, .getfield 30, 3), (4, .invokevirtual 118, 3), (7, .istore_n 1, 1), (8, .aload_n 0, 1), (9, .aload_n 0, 1), (10, .getfield 21, 3), (13, .getfield 122, 3), (16, .putfield 92, 3), (19, .aload_n 0, 1), (20, .getfield 12, 3), (23, .iconst 0, 1), (24, .invokevirtual 115, 3), (27, .pop, 1), (28, .iload_n 1, 1), (29, .iconst (-1), 1), (30, .if_icmp .ne 13, 3), (33, .iconst (-1), 1), (34, .aload_n 0, 1), (35, .getfield 21, 3), (38, .getfield 125, 3), (41, .isub, 1), (42, .ireturn, 1), (43, .aload_n 0, 1)] := by unfold decs; decide +kernel
theorem dX11_train_0 : decode cX11_train 0 = .ok (.aload_n 0, 1) := decs_at DX11_train_0 0 rfl
theorem dX11_train_1 : decode cX11_train 1 = .ok (.getfield 30, 3) := decs_at DX11_train_0 1 rfl
theorem dX11_train_4 : decode cX11_train 4 = .ok (.invokevirtual 118, 3) := decs_at DX11_train_0 2 rfl
theorem dX11_train_7 : decode cX11_train 7 = .ok (.istore_n 1, 1) := decs_at DX11_train_0 3 rfl
theorem dX11_train_8 : decode cX11_train 8 = .ok (.aload_n 0, 1) := decs_at DX11_train_0 4 rfl
theorem dX11_train_9 : decode cX11_train 9 = .ok (.aload_n 0, 1) := decs_at DX11_train_0 5 rfl
theorem dX11_train_10 : decode cX11_train 10 = .ok (.getfield 21, 3) := decs_at DX11_train_0 6 rfl
theorem dX11_train_13 : decode cX11_train 13 = .ok (.getfield 122, 3) := decs_at DX11_train_0 7 rfl
theorem dX11_train_16 : decode cX11_train 16 = .ok (.putfield 92, 3) := decs_at DX11_train_0 8 rfl
theorem dX11_train_19 : decode cX11_train 19 = .ok (.aload_n 0, 1) := decs_at DX11_train_0 9 rfl
theorem dX11_train_20 : decode cX11_train 20 = .ok (.getfield 12, 3) := decs_at DX11_train_0 10 rfl
theorem dX11_train_23 : decode cX11_train 23 = .ok (.iconst 0, 1) := decs_at DX11_train_0 11 rfl
theorem dX11_train_24 : decode cX11_train 24 = .ok (.invokevirtual 115, 3) := decs_at DX11_train_0 12 rfl
theorem dX11_train_27 : decode cX11_train 27 = .ok (.pop, 1) := decs_at DX11_train_0 13 rfl
theorem dX11_train_28 : decode cX11_train 28 = .ok (.iload_n 1, 1) := decs_at DX11_train_0 14 rfl
theorem dX11_train_29 : decode cX11_train 29 = .ok (.iconst (-1), 1) := decs_at DX11_train_0 15 rfl
theorem dX11_train_30 : decode cX11_train 30 = .ok (.if_icmp .ne 13, 3) := decs_at DX11_train_0 16 rfl
theorem dX11_train_33 : decode cX11_train 33 = .ok (.iconst (-1), 1) := decs_at DX11_train_0 17 rfl
theorem dX11_train_34 : decode cX11_train 34 = .ok (.aload_n 0, 1) := decs_at DX11_train_0 18 rfl
theorem dX11_train_35 : decode cX11_train 35 = .ok (.getfield 21, 3) := decs_at DX11_train_0 19 rfl
theorem dX11_train_38 : decode cX11_train 38 = .ok (.getfield 125, 3) := decs_at DX11_train_0 20 rfl
theorem dX11_train_41 : decode cX11_train 41 = .ok (.isub, 1) := decs_at DX11_train_0 21 rfl
theorem dX11_train_42 : decode cX11_train 42 = .ok (.ireturn, 1) := decs_at DX11_train_0 22 rfl
theorem dX11_train_43 : decode cX11_train 43 = .ok (.aload_n 0, 1) := decs_at DX11_train_0 23 rfl
theorem DX11_train_24 : decs cX11_train [(44, .getfield 44, 3), (47, .aload_n 0, 1), (48, .getfield 30, 3), (51, .getfield 128, 3), (54, .invokevirtual 131, 3), (57, .iload_n 1, 1), (58, .ireturn, 1)] := by unfold decs; decide +kernel
theorem dX11_train_44 : decode cX11_train 44 = .ok (.getfield 44, 3) := decs_at DX11_train_24 0 rfl
theorem dX11_train_47 : decode cX11_train 47 = .ok (.aload_n 0, 1) := decs_at DX11_train_24 1 rfl
theorem dX11_train_48 : decode cX11_train 48 = .ok (.getfield 30, 3) := decs_at DX11_train_24 2 rfl
theorem dX11_train_51 : decode cX11_train 51 = .ok (.getfield 128, 3) := decs_at DX11_train_24 3 rfl
theorem dX11_train_54 : decode cX11_train 54 = .ok (.invokevirtual 131, 3) := decs_at DX11_train_24 4 rfl
theorem dX11_train_57 : decode cX11_train 57 = .ok (.iload_n 1, 1) := decs_at DX11_train_24 5 rfl
theorem dX11_train_58 : decode cX11_train 58 = .ok (.ireturn, 1) := decs_at DX11_train_24 6 rfl
theorem DX11_handle_0 : decs cX11_handle [(0, .aload_n 0, 1), (1, .getfield 37, 3), (4, .invokevirtual 135, 3), (7, .istore_n 1, 1), (8, .aload_n 0, 1), (9, .aload_n 0, 1), (10, .getfield 21, 3), (13, .getfield 122, 3), (16, .putfield 92, 3), (19, .aload_n 0, 1), (20, .getfield 12, 3), (23, .iconst 0, 1), (24, .invokevirtual 115, 3), (27, .pop, 1), (28, .iload_n 1, 1), (29, .iconst (-1), 1), (30, .if_icmp .ne 13, 3), (33, .iconst (-1), 1), (34, .aload_n 0, 1), (35, .getfield 21, 3), (38, .getfield 125, 3), (41, .isub, 1), (42, .ireturn, 1), (43, .aload_n 0, 1)] := by unfold decs; decide +kernel
theorem dX11_handle_0 : decode cX11_handle 0 = .ok (.aload_n 0, 1) := decs_at DX11_handle_0 0 rfl
theorem dX11_handle_1 : decode cX11_handle 1 = .ok (.getfield 37, 3) := decs_at DX11_handle_0 1 rfl
theorem dX11_handle_4 : decode cX11_handle 4 = .ok (.invokevirtual 135, 3) := decs_at DX11_handle_0 2 rfl
theorem dX11_handle_7 : decode cX11_handle 7 = .ok (.istore_n 1, 1) := decs_at DX11_handle_0 3 rfl
theorem dX11_handle_8 : decode cX11_handle 8 = .ok (.aload_n 0, 1) := decs_at DX11_handle_0 4 rfl
theorem dX11_handle_9 : decode cX11_handle 9 = .ok (.aload_n 0, 1) := decs_at DX11_handle_0 5 rfl
theorem dX11_handle_10 : decode cX11_handle 10 = .ok (.getfield 21, 3) := decs_at DX11_handle_0 6 rfl
theorem dX11_handle_13 : decode cX11_handle 13 = .ok (.getfield 122, 3) := decs_at DX11_handle_0 7 rfl
theorem dX11_handle_16 : decode cX11_handle 16 = .ok (.putfield 92, 3) := decs_at DX11_handle_0 8 rfl
theorem dX11_handle_19 : decode cX11_handle 19 = .ok (.aload_n 0, 1) := decs_at DX11_handle_0 9 rfl
theorem dX11_handle_20 : decode cX11_handle 20 = .ok (.getfield 12, 3) := decs_at DX11_handle_0 10 rfl
theorem dX11_handle_23 : decode cX11_handle 23 = .ok (.iconst 0, 1) := decs_at DX11_handle_0 11 rfl
theorem dX11_handle_24 : decode cX11_handle 24 = .ok (.invokevirtual 115, 3) := decs_at DX11_handle_0 12 rfl
theorem dX11_handle_27 : decode cX11_handle 27 = .ok (.pop, 1) := decs_at DX11_handle_0 13 rfl
theorem dX11_handle_28 : decode cX11_handle 28 = .ok (.iload_n 1, 1) := decs_at DX11_handle_0 14 rfl
theorem dX11_handle_29 : decode cX11_handle 29 = .ok (.iconst (-1), 1) := decs_at DX11_handle_0 15 rfl
theorem dX11_handle_30 : decode cX11_handle 30 = .ok (.if_icmp .ne 13, 3) := decs_at DX11_handle_0 16 rfl
theorem dX11_handle_33 : decode cX11_handle 33 = .ok (.iconst (-1), 1) := decs_at DX11_handle_0 17 rfl
theorem dX11_handle_34 : decode cX11_handle 34 = .ok (.aload_n 0, 1) := decs_at DX11_handle_0 18 rfl
theorem dX11_handle_35 : decode cX11_handle 35 = .ok (.getfield 21, 3) := decs_at DX11_handle_0 19 rfl
theorem dX11_handle_38 : decode cX11_handle 38 = .ok (.getfield 125, 3) := decs_at DX11_handle_0 20 rfl
theorem dX11_handle_41 : decode cX11_handle 41 = .ok (.isub, 1) := decs_at DX11_handle_0 21 rfl
theorem dX11_handle_42 : decode cX11_handle 42 = .ok (.ireturn, 1) := decs_at DX11_handle_0 22 rfl
theorem dX11_handle_43 : decode cX11_handle 43 = .ok (.aload_n 0, 1) := decs_at DX11_handle_0 23 rfl
theorem DX11_handle_24 : decs cX11_handle [(44, .getfield 51, 3), (47, .aload_n 0, 1), (48, .getfield 37, 3), (51, .getfield 136, 3), (54, .invokevirtual 138, 3), (57, .iload_n 1, 1), (58, .ireturn, 1)] := by unfold decs; decide +kernel
theorem dX11_handle_44 : decode cX11_handle 44 = .ok (.getfield 51, 3) := decs_at DX11_handle_24 0 rfl
theorem dX11_handle_47 : decode cX11_handle 47 = .ok (.aload_n 0, 1) := decs_at DX11_handle_24 1 rfl
theorem dX11_handle_48 : decode cX11_handle 48 = .ok (.getfield 37, 3) := decs_at DX11_handle_24 2 rfl
theorem dX11_handle_51 : decode cX11_handle 51 = .ok (.getfield 136, 3) := decs_at DX11_handle_24 3 rfl
theorem dX11_handle_54 : decode cX11_handle 54 = .ok (.invokevirtual 138, 3) := decs_at DX11_handle_24 4 rfl
theorem dX11_handle_57 : decode cX11_handle 57 = .ok (.iload_n 1, 1) := decs_at DX11_handle_24 5 rfl
theorem dX11_handle_58 : decode cX11_handle 58 = .ok (.ireturn, 1) := decs_at DX11_handle_24 6 rfl
theorem DX11_fault_0 : decs cX11_fault [(0, .aload_n 0, 1), (1, .getfield 92, 3), (4, .ireturn, 1)] := by unfold decs; decide +kernel
theorem dX11_fault_0 : decode cX11_fault 0 = .ok (.aload_n 0, 1) := decs_at DX11_fault_0 0 rfl
theorem dX11_fault_1 : decode cX11_fault 1 = .ok (.getfield 92, 3) := decs_at DX11_fault_0 1 rfl
theorem dX11_fault_4 : decode cX11_fault 4 = .ok (.ireturn, 1) := decs_at DX11_fault_0 2 rfl
theorem DX11_car_0 : decs cX11_car [(0, .aload_n 0, 1), (1, .getfield 44, 3), (4, .iload_n 1, 1), (5, .invokevirtual 141, 3), (8, .ifCond .eq 13, 3), (11, .iload_n 2, 1), (12, .ifCond .lt 9, 3), (15, .iload_n 2, 1), (16, .bipush 6, 2), (18, .if_icmp .le 13, 3), (21, .new 144, 3), (24, .dup, 1), (25, .ldc 146, 2), (27, .invokespecial 148, 3), (30, .athrow, 1), (31, .aload_n 0, 1), (32, .getfield 44, 3), (35, .iload_n 1, 1), (36, .iload_n 2, 1), (37, .invokevirtual 151, 3), (40, .ireturn, 1)] := by unfold decs; decide +kernel
theorem dX11_car_0 : decode cX11_car 0 = .ok (.aload_n 0, 1) := decs_at DX11_car_0 0 rfl
theorem dX11_car_1 : decode cX11_car 1 = .ok (.getfield 44, 3) := decs_at DX11_car_0 1 rfl
theorem dX11_car_4 : decode cX11_car 4 = .ok (.iload_n 1, 1) := decs_at DX11_car_0 2 rfl
theorem dX11_car_5 : decode cX11_car 5 = .ok (.invokevirtual 141, 3) := decs_at DX11_car_0 3 rfl
theorem dX11_car_8 : decode cX11_car 8 = .ok (.ifCond .eq 13, 3) := decs_at DX11_car_0 4 rfl
theorem dX11_car_11 : decode cX11_car 11 = .ok (.iload_n 2, 1) := decs_at DX11_car_0 5 rfl
theorem dX11_car_12 : decode cX11_car 12 = .ok (.ifCond .lt 9, 3) := decs_at DX11_car_0 6 rfl
theorem dX11_car_15 : decode cX11_car 15 = .ok (.iload_n 2, 1) := decs_at DX11_car_0 7 rfl
theorem dX11_car_16 : decode cX11_car 16 = .ok (.bipush 6, 2) := decs_at DX11_car_0 8 rfl
theorem dX11_car_18 : decode cX11_car 18 = .ok (.if_icmp .le 13, 3) := decs_at DX11_car_0 9 rfl
theorem dX11_car_21 : decode cX11_car 21 = .ok (.new 144, 3) := decs_at DX11_car_0 10 rfl
theorem dX11_car_24 : decode cX11_car 24 = .ok (.dup, 1) := decs_at DX11_car_0 11 rfl
theorem dX11_car_25 : decode cX11_car 25 = .ok (.ldc 146, 2) := decs_at DX11_car_0 12 rfl
theorem dX11_car_27 : decode cX11_car 27 = .ok (.invokespecial 148, 3) := decs_at DX11_car_0 13 rfl
theorem dX11_car_30 : decode cX11_car 30 = .ok (.athrow, 1) := decs_at DX11_car_0 14 rfl
theorem dX11_car_31 : decode cX11_car 31 = .ok (.aload_n 0, 1) := decs_at DX11_car_0 15 rfl
theorem dX11_car_32 : decode cX11_car 32 = .ok (.getfield 44, 3) := decs_at DX11_car_0 16 rfl
theorem dX11_car_35 : decode cX11_car 35 = .ok (.iload_n 1, 1) := decs_at DX11_car_0 17 rfl
theorem dX11_car_36 : decode cX11_car 36 = .ok (.iload_n 2, 1) := decs_at DX11_car_0 18 rfl
theorem dX11_car_37 : decode cX11_car 37 = .ok (.invokevirtual 151, 3) := decs_at DX11_car_0 19 rfl
theorem dX11_car_40 : decode cX11_car 40 = .ok (.ireturn, 1) := decs_at DX11_car_0 20 rfl
theorem DX11_at_0 : decs cX11_at [(0, .iload_n 3, 1), (1, .ifCond .ne 26, 3), (4, .iload_n 2, 1), (5, .ifCond .eq 14, 3), (8, .aload_n 0, 1), (9, .getfield 44, 3), (12, .iload_n 2, 1), (13, .invokevirtual 141, 3), (16, .ifCond .eq 7, 3), (19, .iconst 1, 1), (20, .goto 33, 3), (23, .iconst 0, 1), (24, .goto 29, 3), (27, .iload_n 3, 1), (28, .iconst 1, 1), (29, .if_icmp .eq 8, 3), (32, .iload_n 3, 1), (33, .iconst 2, 1), (34, .if_icmp .ne 18, 3), (37, .aload_n 0, 1), (38, .getfield 44, 3), (41, .iload_n 2, 1), (42, .invokevirtual 141, 3), (45, .ifCond .eq 7, 3)] := by unfold decs; decide +kernel
theorem dX11_at_0 : decode cX11_at 0 = .ok (.iload_n 3, 1) := decs_at DX11_at_0 0 rfl
theorem dX11_at_1 : decode cX11_at 1 = .ok (.ifCond .ne 26, 3) := decs_at DX11_at_0 1 rfl
theorem dX11_at_4 : decode cX11_at 4 = .ok (.iload_n 2, 1) := decs_at DX11_at_0 2 rfl
theorem dX11_at_5 : decode cX11_at 5 = .ok (.ifCond .eq 14, 3) := decs_at DX11_at_0 3 rfl
theorem dX11_at_8 : decode cX11_at 8 = .ok (.aload_n 0, 1) := decs_at DX11_at_0 4 rfl
theorem dX11_at_9 : decode cX11_at 9 = .ok (.getfield 44, 3) := decs_at DX11_at_0 5 rfl
theorem dX11_at_12 : decode cX11_at 12 = .ok (.iload_n 2, 1) := decs_at DX11_at_0 6 rfl
theorem dX11_at_13 : decode cX11_at 13 = .ok (.invokevirtual 141, 3) := decs_at DX11_at_0 7 rfl
theorem dX11_at_16 : decode cX11_at 16 = .ok (.ifCond .eq 7, 3) := decs_at DX11_at_0 8 rfl
theorem dX11_at_19 : decode cX11_at 19 = .ok (.iconst 1, 1) := decs_at DX11_at_0 9 rfl
theorem dX11_at_20 : decode cX11_at 20 = .ok (.goto 33, 3) := decs_at DX11_at_0 10 rfl
theorem dX11_at_23 : decode cX11_at 23 = .ok (.iconst 0, 1) := decs_at DX11_at_0 11 rfl
theorem dX11_at_24 : decode cX11_at 24 = .ok (.goto 29, 3) := decs_at DX11_at_0 12 rfl
theorem dX11_at_27 : decode cX11_at 27 = .ok (.iload_n 3, 1) := decs_at DX11_at_0 13 rfl
theorem dX11_at_28 : decode cX11_at 28 = .ok (.iconst 1, 1) := decs_at DX11_at_0 14 rfl
theorem dX11_at_29 : decode cX11_at 29 = .ok (.if_icmp .eq 8, 3) := decs_at DX11_at_0 15 rfl
theorem dX11_at_32 : decode cX11_at 32 = .ok (.iload_n 3, 1) := decs_at DX11_at_0 16 rfl
theorem dX11_at_33 : decode cX11_at 33 = .ok (.iconst 2, 1) := decs_at DX11_at_0 17 rfl
theorem dX11_at_34 : decode cX11_at 34 = .ok (.if_icmp .ne 18, 3) := decs_at DX11_at_0 18 rfl
theorem dX11_at_37 : decode cX11_at 37 = .ok (.aload_n 0, 1) := decs_at DX11_at_0 19 rfl
theorem dX11_at_38 : decode cX11_at 38 = .ok (.getfield 44, 3) := decs_at DX11_at_0 20 rfl
theorem dX11_at_41 : decode cX11_at 41 = .ok (.iload_n 2, 1) := decs_at DX11_at_0 21 rfl
theorem dX11_at_42 : decode cX11_at 42 = .ok (.invokevirtual 141, 3) := decs_at DX11_at_0 22 rfl
theorem dX11_at_45 : decode cX11_at 45 = .ok (.ifCond .eq 7, 3) := decs_at DX11_at_0 23 rfl
theorem DX11_at_24 : decs cX11_at [(48, .iconst 1, 1), (49, .goto 4, 3), (52, .iconst 0, 1), (53, .istore 4, 2), (55, .iload 4, 2), (57, .ifCond .eq 14, 3), (60, .iload_n 1, 1), (61, .ifCond .lt 10, 3), (64, .iload_n 1, 1), (65, .sipush 600, 3), (68, .if_icmp .le 13, 3), (71, .new 144, 3), (74, .dup, 1), (75, .ldc 155, 2), (77, .invokespecial 148, 3), (80, .athrow, 1), (81, .aload_n 0, 1), (82, .getfield 58, 3), (85, .aload_n 0, 1), (86, .getfield 44, 3), (89, .invokevirtual 157, 3), (92, .iconst 0, 1), (93, .istore 5, 2), (95, .iload 5, 2)] := by unfold decs; decide +kernel
theorem dX11_at_48 : decode cX11_at 48 = .ok (.iconst 1, 1) := decs_at DX11_at_24 0 rfl
theorem dX11_at_49 : decode cX11_at 49 = .ok (.goto 4, 3) := decs_at DX11_at_24 1 rfl
theorem dX11_at_52 : decode cX11_at 52 = .ok (.iconst 0, 1) := decs_at DX11_at_24 2 rfl
theorem dX11_at_53 : decode cX11_at 53 = .ok (.istore 4, 2) := decs_at DX11_at_24 3 rfl
theorem dX11_at_55 : decode cX11_at 55 = .ok (.iload 4, 2) := decs_at DX11_at_24 4 rfl
theorem dX11_at_57 : decode cX11_at 57 = .ok (.ifCond .eq 14, 3) := decs_at DX11_at_24 5 rfl
theorem dX11_at_60 : decode cX11_at 60 = .ok (.iload_n 1, 1) := decs_at DX11_at_24 6 rfl
theorem dX11_at_61 : decode cX11_at 61 = .ok (.ifCond .lt 10, 3) := decs_at DX11_at_24 7 rfl
theorem dX11_at_64 : decode cX11_at 64 = .ok (.iload_n 1, 1) := decs_at DX11_at_24 8 rfl
theorem dX11_at_65 : decode cX11_at 65 = .ok (.sipush 600, 3) := decs_at DX11_at_24 9 rfl
theorem dX11_at_68 : decode cX11_at 68 = .ok (.if_icmp .le 13, 3) := decs_at DX11_at_24 10 rfl
theorem dX11_at_71 : decode cX11_at 71 = .ok (.new 144, 3) := decs_at DX11_at_24 11 rfl
theorem dX11_at_74 : decode cX11_at 74 = .ok (.dup, 1) := decs_at DX11_at_24 12 rfl
theorem dX11_at_75 : decode cX11_at 75 = .ok (.ldc 155, 2) := decs_at DX11_at_24 13 rfl
theorem dX11_at_77 : decode cX11_at 77 = .ok (.invokespecial 148, 3) := decs_at DX11_at_24 14 rfl
theorem dX11_at_80 : decode cX11_at 80 = .ok (.athrow, 1) := decs_at DX11_at_24 15 rfl
theorem dX11_at_81 : decode cX11_at 81 = .ok (.aload_n 0, 1) := decs_at DX11_at_24 16 rfl
theorem dX11_at_82 : decode cX11_at 82 = .ok (.getfield 58, 3) := decs_at DX11_at_24 17 rfl
theorem dX11_at_85 : decode cX11_at 85 = .ok (.aload_n 0, 1) := decs_at DX11_at_24 18 rfl
theorem dX11_at_86 : decode cX11_at 86 = .ok (.getfield 44, 3) := decs_at DX11_at_24 19 rfl
theorem dX11_at_89 : decode cX11_at 89 = .ok (.invokevirtual 157, 3) := decs_at DX11_at_24 20 rfl
theorem dX11_at_92 : decode cX11_at 92 = .ok (.iconst 0, 1) := decs_at DX11_at_24 21 rfl
theorem dX11_at_93 : decode cX11_at 93 = .ok (.istore 5, 2) := decs_at DX11_at_24 22 rfl
theorem dX11_at_95 : decode cX11_at 95 = .ok (.iload 5, 2) := decs_at DX11_at_24 23 rfl
theorem DX11_at_48 : decs cX11_at [(97, .iload_n 1, 1), (98, .if_icmp .ge 24, 3), (101, .aload_n 0, 1), (102, .getfield 58, 3), (105, .aload_n 0, 1), (106, .getfield 44, 3), (109, .aload_n 0, 1), (110, .getfield 51, 3), (113, .invokevirtual 160, 3), (116, .iinc 5 1, 3), (119, .goto (-24), 3), (122, .aload_n 0, 1), (123, .getfield 58, 3), (126, .iload_n 2, 1), (127, .iload_n 3, 1), (128, .invokevirtual 163, 3), (131, .ireturn, 1)] := by unfold decs; decide +kernel
theorem dX11_at_97 : decode cX11_at 97 = .ok (.iload_n 1, 1) := decs_at DX11_at_48 0 rfl
theorem dX11_at_98 : decode cX11_at 98 = .ok (.if_icmp .ge 24, 3) := decs_at DX11_at_48 1 rfl
theorem dX11_at_101 : decode cX11_at 101 = .ok (.aload_n 0, 1) := decs_at DX11_at_48 2 rfl
theorem dX11_at_102 : decode cX11_at 102 = .ok (.getfield 58, 3) := decs_at DX11_at_48 3 rfl
theorem dX11_at_105 : decode cX11_at 105 = .ok (.aload_n 0, 1) := decs_at DX11_at_48 4 rfl
theorem dX11_at_106 : decode cX11_at 106 = .ok (.getfield 44, 3) := decs_at DX11_at_48 5 rfl
theorem dX11_at_109 : decode cX11_at 109 = .ok (.aload_n 0, 1) := decs_at DX11_at_48 6 rfl
theorem dX11_at_110 : decode cX11_at 110 = .ok (.getfield 51, 3) := decs_at DX11_at_48 7 rfl
theorem dX11_at_113 : decode cX11_at 113 = .ok (.invokevirtual 160, 3) := decs_at DX11_at_48 8 rfl
theorem dX11_at_116 : decode cX11_at 116 = .ok (.iinc 5 1, 3) := decs_at DX11_at_48 9 rfl
theorem dX11_at_119 : decode cX11_at 119 = .ok (.goto (-24), 3) := decs_at DX11_at_48 10 rfl
theorem dX11_at_122 : decode cX11_at 122 = .ok (.aload_n 0, 1) := decs_at DX11_at_48 11 rfl
theorem dX11_at_123 : decode cX11_at 123 = .ok (.getfield 58, 3) := decs_at DX11_at_48 12 rfl
theorem dX11_at_126 : decode cX11_at 126 = .ok (.iload_n 2, 1) := decs_at DX11_at_48 13 rfl
theorem dX11_at_127 : decode cX11_at 127 = .ok (.iload_n 3, 1) := decs_at DX11_at_48 14 rfl
theorem dX11_at_128 : decode cX11_at 128 = .ok (.invokevirtual 163, 3) := decs_at DX11_at_48 15 rfl
theorem dX11_at_131 : decode cX11_at 131 = .ok (.ireturn, 1) := decs_at DX11_at_48 16 rfl
theorem DX11_hears_0 : decs cX11_hears [(0, .aload_n 0, 1), (1, .getfield 44, 3), (4, .iload_n 1, 1), (5, .invokevirtual 141, 3), (8, .ifCond .ne 5, 3), (11, .iconst (-1), 1), (12, .ireturn, 1), (13, .aload_n 0, 1), (14, .getfield 58, 3), (17, .aload_n 0, 1), (18, .getfield 44, 3), (21, .invokevirtual 157, 3), (24, .iconst 1, 1), (25, .istore_n 2, 1), (26, .iload_n 2, 1), (27, .sipush 600, 3), (30, .if_icmp .gt 38, 3), (33, .aload_n 0, 1), (34, .getfield 58, 3), (37, .aload_n 0, 1), (38, .getfield 44, 3), (41, .aload_n 0, 1), (42, .getfield 51, 3), (45, .invokevirtual 160, 3)] := by unfold decs; decide +kernel
theorem dX11_hears_0 : decode cX11_hears 0 = .ok (.aload_n 0, 1) := decs_at DX11_hears_0 0 rfl
theorem dX11_hears_1 : decode cX11_hears 1 = .ok (.getfield 44, 3) := decs_at DX11_hears_0 1 rfl
theorem dX11_hears_4 : decode cX11_hears 4 = .ok (.iload_n 1, 1) := decs_at DX11_hears_0 2 rfl
theorem dX11_hears_5 : decode cX11_hears 5 = .ok (.invokevirtual 141, 3) := decs_at DX11_hears_0 3 rfl
theorem dX11_hears_8 : decode cX11_hears 8 = .ok (.ifCond .ne 5, 3) := decs_at DX11_hears_0 4 rfl
theorem dX11_hears_11 : decode cX11_hears 11 = .ok (.iconst (-1), 1) := decs_at DX11_hears_0 5 rfl
theorem dX11_hears_12 : decode cX11_hears 12 = .ok (.ireturn, 1) := decs_at DX11_hears_0 6 rfl
theorem dX11_hears_13 : decode cX11_hears 13 = .ok (.aload_n 0, 1) := decs_at DX11_hears_0 7 rfl
theorem dX11_hears_14 : decode cX11_hears 14 = .ok (.getfield 58, 3) := decs_at DX11_hears_0 8 rfl
theorem dX11_hears_17 : decode cX11_hears 17 = .ok (.aload_n 0, 1) := decs_at DX11_hears_0 9 rfl
theorem dX11_hears_18 : decode cX11_hears 18 = .ok (.getfield 44, 3) := decs_at DX11_hears_0 10 rfl
theorem dX11_hears_21 : decode cX11_hears 21 = .ok (.invokevirtual 157, 3) := decs_at DX11_hears_0 11 rfl
theorem dX11_hears_24 : decode cX11_hears 24 = .ok (.iconst 1, 1) := decs_at DX11_hears_0 12 rfl
theorem dX11_hears_25 : decode cX11_hears 25 = .ok (.istore_n 2, 1) := decs_at DX11_hears_0 13 rfl
theorem dX11_hears_26 : decode cX11_hears 26 = .ok (.iload_n 2, 1) := decs_at DX11_hears_0 14 rfl
theorem dX11_hears_27 : decode cX11_hears 27 = .ok (.sipush 600, 3) := decs_at DX11_hears_0 15 rfl
theorem dX11_hears_30 : decode cX11_hears 30 = .ok (.if_icmp .gt 38, 3) := decs_at DX11_hears_0 16 rfl
theorem dX11_hears_33 : decode cX11_hears 33 = .ok (.aload_n 0, 1) := decs_at DX11_hears_0 17 rfl
theorem dX11_hears_34 : decode cX11_hears 34 = .ok (.getfield 58, 3) := decs_at DX11_hears_0 18 rfl
theorem dX11_hears_37 : decode cX11_hears 37 = .ok (.aload_n 0, 1) := decs_at DX11_hears_0 19 rfl
theorem dX11_hears_38 : decode cX11_hears 38 = .ok (.getfield 44, 3) := decs_at DX11_hears_0 20 rfl
theorem dX11_hears_41 : decode cX11_hears 41 = .ok (.aload_n 0, 1) := decs_at DX11_hears_0 21 rfl
theorem dX11_hears_42 : decode cX11_hears 42 = .ok (.getfield 51, 3) := decs_at DX11_hears_0 22 rfl
theorem dX11_hears_45 : decode cX11_hears 45 = .ok (.invokevirtual 160, 3) := decs_at DX11_hears_0 23 rfl
theorem DX11_hears_24 : decs cX11_hears [(48, .aload_n 0, 1), (49, .getfield 58, 3), (52, .iload_n 1, 1), (53, .iconst 2, 1), (54, .invokevirtual 163, 3), (57, .ifCond .le 5, 3), (60, .iload_n 2, 1), (61, .ireturn, 1), (62, .iinc 2 1, 3), (65, .goto (-39), 3), (68, .iconst (-1), 1), (69, .ireturn, 1)] := by unfold decs; decide +kernel
theorem dX11_hears_48 : decode cX11_hears 48 = .ok (.aload_n 0, 1) := decs_at DX11_hears_24 0 rfl
theorem dX11_hears_49 : decode cX11_hears 49 = .ok (.getfield 58, 3) := decs_at DX11_hears_24 1 rfl
theorem dX11_hears_52 : decode cX11_hears 52 = .ok (.iload_n 1, 1) := decs_at DX11_hears_24 2 rfl
theorem dX11_hears_53 : decode cX11_hears 53 = .ok (.iconst 2, 1) := decs_at DX11_hears_24 3 rfl
theorem dX11_hears_54 : decode cX11_hears 54 = .ok (.invokevirtual 163, 3) := decs_at DX11_hears_24 4 rfl
theorem dX11_hears_57 : decode cX11_hears 57 = .ok (.ifCond .le 5, 3) := decs_at DX11_hears_24 5 rfl
theorem dX11_hears_60 : decode cX11_hears 60 = .ok (.iload_n 2, 1) := decs_at DX11_hears_24 6 rfl
theorem dX11_hears_61 : decode cX11_hears 61 = .ok (.ireturn, 1) := decs_at DX11_hears_24 7 rfl
theorem dX11_hears_62 : decode cX11_hears 62 = .ok (.iinc 2 1, 3) := decs_at DX11_hears_24 8 rfl
theorem dX11_hears_65 : decode cX11_hears 65 = .ok (.goto (-39), 3) := decs_at DX11_hears_24 9 rfl
theorem dX11_hears_68 : decode cX11_hears 68 = .ok (.iconst (-1), 1) := decs_at DX11_hears_24 10 rfl
theorem dX11_hears_69 : decode cX11_hears 69 = .ok (.ireturn, 1) := decs_at DX11_hears_24 11 rfl
theorem DX11_easy_0 : decs cX11_easy [(0, .iconst 0, 1), (1, .istore_n 1, 1), (2, .aload_n 0, 1), (3, .getfield 58, 3), (6, .aload_n 0, 1), (7, .getfield 44, 3), (10, .invokevirtual 157, 3), (13, .iconst 1, 1), (14, .istore_n 2, 1), (15, .iload_n 2, 1), (16, .sipush 600, 3), (19, .if_icmp .gt 60, 3), (22, .aload_n 0, 1), (23, .getfield 58, 3), (26, .aload_n 0, 1), (27, .getfield 44, 3), (30, .aload_n 0, 1), (31, .getfield 51, 3), (34, .invokevirtual 160, 3), (37, .aload_n 0, 1), (38, .getfield 58, 3), (41, .aload_n 0, 1), (42, .getfield 44, 3), (45, .invokevirtual 166, 3)] := by unfold decs; decide +kernel
theorem dX11_easy_0 : decode cX11_easy 0 = .ok (.iconst 0, 1) := decs_at DX11_easy_0 0 rfl
theorem dX11_easy_1 : decode cX11_easy 1 = .ok (.istore_n 1, 1) := decs_at DX11_easy_0 1 rfl
theorem dX11_easy_2 : decode cX11_easy 2 = .ok (.aload_n 0, 1) := decs_at DX11_easy_0 2 rfl
theorem dX11_easy_3 : decode cX11_easy 3 = .ok (.getfield 58, 3) := decs_at DX11_easy_0 3 rfl
theorem dX11_easy_6 : decode cX11_easy 6 = .ok (.aload_n 0, 1) := decs_at DX11_easy_0 4 rfl
theorem dX11_easy_7 : decode cX11_easy 7 = .ok (.getfield 44, 3) := decs_at DX11_easy_0 5 rfl
theorem dX11_easy_10 : decode cX11_easy 10 = .ok (.invokevirtual 157, 3) := decs_at DX11_easy_0 6 rfl
theorem dX11_easy_13 : decode cX11_easy 13 = .ok (.iconst 1, 1) := decs_at DX11_easy_0 7 rfl
theorem dX11_easy_14 : decode cX11_easy 14 = .ok (.istore_n 2, 1) := decs_at DX11_easy_0 8 rfl
theorem dX11_easy_15 : decode cX11_easy 15 = .ok (.iload_n 2, 1) := decs_at DX11_easy_0 9 rfl
theorem dX11_easy_16 : decode cX11_easy 16 = .ok (.sipush 600, 3) := decs_at DX11_easy_0 10 rfl
theorem dX11_easy_19 : decode cX11_easy 19 = .ok (.if_icmp .gt 60, 3) := decs_at DX11_easy_0 11 rfl
theorem dX11_easy_22 : decode cX11_easy 22 = .ok (.aload_n 0, 1) := decs_at DX11_easy_0 12 rfl
theorem dX11_easy_23 : decode cX11_easy 23 = .ok (.getfield 58, 3) := decs_at DX11_easy_0 13 rfl
theorem dX11_easy_26 : decode cX11_easy 26 = .ok (.aload_n 0, 1) := decs_at DX11_easy_0 14 rfl
theorem dX11_easy_27 : decode cX11_easy 27 = .ok (.getfield 44, 3) := decs_at DX11_easy_0 15 rfl
theorem dX11_easy_30 : decode cX11_easy 30 = .ok (.aload_n 0, 1) := decs_at DX11_easy_0 16 rfl
theorem dX11_easy_31 : decode cX11_easy 31 = .ok (.getfield 51, 3) := decs_at DX11_easy_0 17 rfl
theorem dX11_easy_34 : decode cX11_easy 34 = .ok (.invokevirtual 160, 3) := decs_at DX11_easy_0 18 rfl
theorem dX11_easy_37 : decode cX11_easy 37 = .ok (.aload_n 0, 1) := decs_at DX11_easy_0 19 rfl
theorem dX11_easy_38 : decode cX11_easy 38 = .ok (.getfield 58, 3) := decs_at DX11_easy_0 20 rfl
theorem dX11_easy_41 : decode cX11_easy 41 = .ok (.aload_n 0, 1) := decs_at DX11_easy_0 21 rfl
theorem dX11_easy_42 : decode cX11_easy 42 = .ok (.getfield 44, 3) := decs_at DX11_easy_0 22 rfl
theorem dX11_easy_45 : decode cX11_easy 45 = .ok (.invokevirtual 166, 3) := decs_at DX11_easy_0 23 rfl
theorem DX11_easy_24 : decs cX11_easy [(48, .istore_n 3, 1), (49, .iload_n 1, 1), (50, .ifCond .eq 9, 3), (53, .iload_n 3, 1), (54, .ifCond .ne 5, 3), (57, .iload_n 2, 1), (58, .ireturn, 1), (59, .iload_n 1, 1), (60, .ifCond .ne 7, 3), (63, .iload_n 3, 1), (64, .ifCond .eq 7, 3), (67, .iconst 1, 1), (68, .goto 4, 3), (71, .iconst 0, 1), (72, .istore_n 1, 1), (73, .iinc 2 1, 3), (76, .goto (-61), 3), (79, .iconst (-1), 1), (80, .ireturn, 1)] := by unfold decs; decide +kernel
theorem dX11_easy_48 : decode cX11_easy 48 = .ok (.istore_n 3, 1) := decs_at DX11_easy_24 0 rfl
theorem dX11_easy_49 : decode cX11_easy 49 = .ok (.iload_n 1, 1) := decs_at DX11_easy_24 1 rfl
theorem dX11_easy_50 : decode cX11_easy 50 = .ok (.ifCond .eq 9, 3) := decs_at DX11_easy_24 2 rfl
theorem dX11_easy_53 : decode cX11_easy 53 = .ok (.iload_n 3, 1) := decs_at DX11_easy_24 3 rfl
theorem dX11_easy_54 : decode cX11_easy 54 = .ok (.ifCond .ne 5, 3) := decs_at DX11_easy_24 4 rfl
theorem dX11_easy_57 : decode cX11_easy 57 = .ok (.iload_n 2, 1) := decs_at DX11_easy_24 5 rfl
theorem dX11_easy_58 : decode cX11_easy 58 = .ok (.ireturn, 1) := decs_at DX11_easy_24 6 rfl
theorem dX11_easy_59 : decode cX11_easy 59 = .ok (.iload_n 1, 1) := decs_at DX11_easy_24 7 rfl
theorem dX11_easy_60 : decode cX11_easy 60 = .ok (.ifCond .ne 7, 3) := decs_at DX11_easy_24 8 rfl
theorem dX11_easy_63 : decode cX11_easy 63 = .ok (.iload_n 3, 1) := decs_at DX11_easy_24 9 rfl
theorem dX11_easy_64 : decode cX11_easy 64 = .ok (.ifCond .eq 7, 3) := decs_at DX11_easy_24 10 rfl
theorem dX11_easy_67 : decode cX11_easy 67 = .ok (.iconst 1, 1) := decs_at DX11_easy_24 11 rfl
theorem dX11_easy_68 : decode cX11_easy 68 = .ok (.goto 4, 3) := decs_at DX11_easy_24 12 rfl
theorem dX11_easy_71 : decode cX11_easy 71 = .ok (.iconst 0, 1) := decs_at DX11_easy_24 13 rfl
theorem dX11_easy_72 : decode cX11_easy 72 = .ok (.istore_n 1, 1) := decs_at DX11_easy_24 14 rfl
theorem dX11_easy_73 : decode cX11_easy 73 = .ok (.iinc 2 1, 3) := decs_at DX11_easy_24 15 rfl
theorem dX11_easy_76 : decode cX11_easy 76 = .ok (.goto (-61), 3) := decs_at DX11_easy_24 16 rfl
theorem dX11_easy_79 : decode cX11_easy 79 = .ok (.iconst (-1), 1) := decs_at DX11_easy_24 17 rfl
theorem dX11_easy_80 : decode cX11_easy 80 = .ok (.ireturn, 1) := decs_at DX11_easy_24 18 rfl
theorem DX11_run_0 : decs cX11_run [(0, .iload_n 1, 1), (1, .iload_n 2, 1), (2, .iload_n 3, 1), (3, .invokestatic 170, 3), (6, .ifCond .ne 6, 3), (9, .bipush (-2), 2), (11, .ireturn, 1), (12, .aload_n 0, 1), (13, .iconst 1, 1), (14, .putfield 96, 3), (17, .aload_n 0, 1), (18, .getfield 58, 3), (21, .aload_n 0, 1), (22, .getfield 44, 3), (25, .invokevirtual 157, 3), (28, .aload_n 0, 1), (29, .getfield 65, 3), (32, .iload_n 1, 1), (33, .iload_n 2, 1), (34, .iload_n 3, 1), (35, .invokevirtual 174, 3), (38, .aload_n 0, 1), (39, .getfield 65, 3), (42, .ldc 177, 2)] := by unfold decs; decide +kernel
theorem dX11_run_0 : decode cX11_run 0 = .ok (.iload_n 1, 1) := decs_at DX11_run_0 0 rfl
theorem dX11_run_1 : decode cX11_run 1 = .ok (.iload_n 2, 1) := decs_at DX11_run_0 1 rfl
theorem dX11_run_2 : decode cX11_run 2 = .ok (.iload_n 3, 1) := decs_at DX11_run_0 2 rfl
theorem dX11_run_3 : decode cX11_run 3 = .ok (.invokestatic 170, 3) := decs_at DX11_run_0 3 rfl
theorem dX11_run_6 : decode cX11_run 6 = .ok (.ifCond .ne 6, 3) := decs_at DX11_run_0 4 rfl
theorem dX11_run_9 : decode cX11_run 9 = .ok (.bipush (-2), 2) := decs_at DX11_run_0 5 rfl
theorem dX11_run_11 : decode cX11_run 11 = .ok (.ireturn, 1) := decs_at DX11_run_0 6 rfl
theorem dX11_run_12 : decode cX11_run 12 = .ok (.aload_n 0, 1) := decs_at DX11_run_0 7 rfl
theorem dX11_run_13 : decode cX11_run 13 = .ok (.iconst 1, 1) := decs_at DX11_run_0 8 rfl
theorem dX11_run_14 : decode cX11_run 14 = .ok (.putfield 96, 3) := decs_at DX11_run_0 9 rfl
theorem dX11_run_17 : decode cX11_run 17 = .ok (.aload_n 0, 1) := decs_at DX11_run_0 10 rfl
theorem dX11_run_18 : decode cX11_run 18 = .ok (.getfield 58, 3) := decs_at DX11_run_0 11 rfl
theorem dX11_run_21 : decode cX11_run 21 = .ok (.aload_n 0, 1) := decs_at DX11_run_0 12 rfl
theorem dX11_run_22 : decode cX11_run 22 = .ok (.getfield 44, 3) := decs_at DX11_run_0 13 rfl
theorem dX11_run_25 : decode cX11_run 25 = .ok (.invokevirtual 157, 3) := decs_at DX11_run_0 14 rfl
theorem dX11_run_28 : decode cX11_run 28 = .ok (.aload_n 0, 1) := decs_at DX11_run_0 15 rfl
theorem dX11_run_29 : decode cX11_run 29 = .ok (.getfield 65, 3) := decs_at DX11_run_0 16 rfl
theorem dX11_run_32 : decode cX11_run 32 = .ok (.iload_n 1, 1) := decs_at DX11_run_0 17 rfl
theorem dX11_run_33 : decode cX11_run 33 = .ok (.iload_n 2, 1) := decs_at DX11_run_0 18 rfl
theorem dX11_run_34 : decode cX11_run 34 = .ok (.iload_n 3, 1) := decs_at DX11_run_0 19 rfl
theorem dX11_run_35 : decode cX11_run 35 = .ok (.invokevirtual 174, 3) := decs_at DX11_run_0 20 rfl
theorem dX11_run_38 : decode cX11_run 38 = .ok (.aload_n 0, 1) := decs_at DX11_run_0 21 rfl
theorem dX11_run_39 : decode cX11_run 39 = .ok (.getfield 65, 3) := decs_at DX11_run_0 22 rfl
theorem dX11_run_42 : decode cX11_run 42 = .ok (.ldc 177, 2) := decs_at DX11_run_0 23 rfl
theorem DX11_run_24 : decs cX11_run [(44, .aload_n 0, 1), (45, .getfield 44, 3), (48, .aload_n 0, 1), (49, .getfield 51, 3), (52, .aload_n 0, 1), (53, .getfield 58, 3), (56, .invokevirtual 178, 3), (59, .ireturn, 1)] := by unfold decs; decide +kernel
theorem dX11_run_44 : decode cX11_run 44 = .ok (.aload_n 0, 1) := decs_at DX11_run_24 0 rfl
theorem dX11_run_45 : decode cX11_run 45 = .ok (.getfield 44, 3) := decs_at DX11_run_24 1 rfl
theorem dX11_run_48 : decode cX11_run 48 = .ok (.aload_n 0, 1) := decs_at DX11_run_24 2 rfl
theorem dX11_run_49 : decode cX11_run 49 = .ok (.getfield 51, 3) := decs_at DX11_run_24 3 rfl
theorem dX11_run_52 : decode cX11_run 52 = .ok (.aload_n 0, 1) := decs_at DX11_run_24 4 rfl
theorem dX11_run_53 : decode cX11_run 53 = .ok (.getfield 58, 3) := decs_at DX11_run_24 5 rfl
theorem dX11_run_56 : decode cX11_run 56 = .ok (.invokevirtual 178, 3) := decs_at DX11_run_24 6 rfl
theorem dX11_run_59 : decode cX11_run 59 = .ok (.ireturn, 1) := decs_at DX11_run_24 7 rfl
theorem DX11_ran_0 : decs cX11_ran [(0, .aload_n 0, 1), (1, .getfield 96, 3), (4, .ifCond .ne 5, 3), (7, .iconst (-1), 1), (8, .ireturn, 1), (9, .iload_n 1, 1), (10, .tableswitch 50 0 2 #[26, 34, 42], 26), (36, .aload_n 0, 1), (37, .getfield 65, 3), (40, .getfield 182, 3), (43, .ireturn, 1), (44, .aload_n 0, 1), (45, .getfield 65, 3), (48, .getfield 185, 3), (51, .ireturn, 1), (52, .aload_n 0, 1), (53, .getfield 65, 3), (56, .getfield 188, 3), (59, .ireturn, 1), (60, .iconst (-1), 1), (61, .ireturn, 1)] := by unfold decs; decide +kernel
theorem dX11_ran_0 : decode cX11_ran 0 = .ok (.aload_n 0, 1) := decs_at DX11_ran_0 0 rfl
theorem dX11_ran_1 : decode cX11_ran 1 = .ok (.getfield 96, 3) := decs_at DX11_ran_0 1 rfl
theorem dX11_ran_4 : decode cX11_ran 4 = .ok (.ifCond .ne 5, 3) := decs_at DX11_ran_0 2 rfl
theorem dX11_ran_7 : decode cX11_ran 7 = .ok (.iconst (-1), 1) := decs_at DX11_ran_0 3 rfl
theorem dX11_ran_8 : decode cX11_ran 8 = .ok (.ireturn, 1) := decs_at DX11_ran_0 4 rfl
theorem dX11_ran_9 : decode cX11_ran 9 = .ok (.iload_n 1, 1) := decs_at DX11_ran_0 5 rfl
theorem dX11_ran_10 : decode cX11_ran 10 = .ok (.tableswitch 50 0 2 #[26, 34, 42], 26) := decs_at DX11_ran_0 6 rfl
theorem dX11_ran_36 : decode cX11_ran 36 = .ok (.aload_n 0, 1) := decs_at DX11_ran_0 7 rfl
theorem dX11_ran_37 : decode cX11_ran 37 = .ok (.getfield 65, 3) := decs_at DX11_ran_0 8 rfl
theorem dX11_ran_40 : decode cX11_ran 40 = .ok (.getfield 182, 3) := decs_at DX11_ran_0 9 rfl
theorem dX11_ran_43 : decode cX11_ran 43 = .ok (.ireturn, 1) := decs_at DX11_ran_0 10 rfl
theorem dX11_ran_44 : decode cX11_ran 44 = .ok (.aload_n 0, 1) := decs_at DX11_ran_0 11 rfl
theorem dX11_ran_45 : decode cX11_ran 45 = .ok (.getfield 65, 3) := decs_at DX11_ran_0 12 rfl
theorem dX11_ran_48 : decode cX11_ran 48 = .ok (.getfield 185, 3) := decs_at DX11_ran_0 13 rfl
theorem dX11_ran_51 : decode cX11_ran 51 = .ok (.ireturn, 1) := decs_at DX11_ran_0 14 rfl
theorem dX11_ran_52 : decode cX11_ran 52 = .ok (.aload_n 0, 1) := decs_at DX11_ran_0 15 rfl
theorem dX11_ran_53 : decode cX11_ran 53 = .ok (.getfield 65, 3) := decs_at DX11_ran_0 16 rfl
theorem dX11_ran_56 : decode cX11_ran 56 = .ok (.getfield 188, 3) := decs_at DX11_ran_0 17 rfl
theorem dX11_ran_59 : decode cX11_ran 59 = .ok (.ireturn, 1) := decs_at DX11_ran_0 18 rfl
theorem dX11_ran_60 : decode cX11_ran 60 = .ok (.iconst (-1), 1) := decs_at DX11_ran_0 19 rfl
theorem dX11_ran_61 : decode cX11_ran 61 = .ok (.ireturn, 1) := decs_at DX11_ran_0 20 rfl
theorem DX11_help_0 : decs cX11_help [(0, .iload_n 1, 1), (1, .iload_n 2, 1), (2, .iload_n 3, 1), (3, .invokestatic 170, 3), (6, .ifCond .eq 8, 3), (9, .iload 4, 2), (11, .ifCond .ge 6, 3), (14, .bipush (-2), 2), (16, .ireturn, 1), (17, .aload_n 0, 1), (18, .getfield 74, 3), (21, .iload_n 1, 1), (22, .iload_n 2, 1), (23, .iload_n 3, 1), (24, .invokevirtual 191, 3), (27, .aload_n 0, 1), (28, .getfield 74, 3), (31, .iload 4, 2), (33, .invokevirtual 194, 3), (36, .ireturn, 1)] := by unfold decs; decide +kernel
theorem dX11_help_0 : decode cX11_help 0 = .ok (.iload_n 1, 1) := decs_at DX11_help_0 0 rfl
theorem dX11_help_1 : decode cX11_help 1 = .ok (.iload_n 2, 1) := decs_at DX11_help_0 1 rfl
theorem dX11_help_2 : decode cX11_help 2 = .ok (.iload_n 3, 1) := decs_at DX11_help_0 2 rfl
theorem dX11_help_3 : decode cX11_help 3 = .ok (.invokestatic 170, 3) := decs_at DX11_help_0 3 rfl
theorem dX11_help_6 : decode cX11_help 6 = .ok (.ifCond .eq 8, 3) := decs_at DX11_help_0 4 rfl
theorem dX11_help_9 : decode cX11_help 9 = .ok (.iload 4, 2) := decs_at DX11_help_0 5 rfl
theorem dX11_help_11 : decode cX11_help 11 = .ok (.ifCond .ge 6, 3) := decs_at DX11_help_0 6 rfl
theorem dX11_help_14 : decode cX11_help 14 = .ok (.bipush (-2), 2) := decs_at DX11_help_0 7 rfl
theorem dX11_help_16 : decode cX11_help 16 = .ok (.ireturn, 1) := decs_at DX11_help_0 8 rfl
theorem dX11_help_17 : decode cX11_help 17 = .ok (.aload_n 0, 1) := decs_at DX11_help_0 9 rfl
theorem dX11_help_18 : decode cX11_help 18 = .ok (.getfield 74, 3) := decs_at DX11_help_0 10 rfl
theorem dX11_help_21 : decode cX11_help 21 = .ok (.iload_n 1, 1) := decs_at DX11_help_0 11 rfl
theorem dX11_help_22 : decode cX11_help 22 = .ok (.iload_n 2, 1) := decs_at DX11_help_0 12 rfl
theorem dX11_help_23 : decode cX11_help 23 = .ok (.iload_n 3, 1) := decs_at DX11_help_0 13 rfl
theorem dX11_help_24 : decode cX11_help 24 = .ok (.invokevirtual 191, 3) := decs_at DX11_help_0 14 rfl
theorem dX11_help_27 : decode cX11_help 27 = .ok (.aload_n 0, 1) := decs_at DX11_help_0 15 rfl
theorem dX11_help_28 : decode cX11_help 28 = .ok (.getfield 74, 3) := decs_at DX11_help_0 16 rfl
theorem dX11_help_31 : decode cX11_help 31 = .ok (.iload 4, 2) := decs_at DX11_help_0 17 rfl
theorem dX11_help_33 : decode cX11_help 33 = .ok (.invokevirtual 194, 3) := decs_at DX11_help_0 18 rfl
theorem dX11_help_36 : decode cX11_help 36 = .ok (.ireturn, 1) := decs_at DX11_help_0 19 rfl
theorem DX11_parted_0 : decs cX11_parted [(0, .iload_n 1, 1), (1, .iconst 1, 1), (2, .if_icmp .lt 30, 3), (5, .iload_n 1, 1), (6, .aload_n 0, 1), (7, .getfield 44, 3), (10, .getfield 198, 3), (13, .if_icmp .ge 19, 3), (16, .iload_n 2, 1), (17, .iconst 1, 1), (18, .if_icmp .lt 14, 3), (21, .iload_n 2, 1), (22, .sipush 600, 3), (25, .if_icmp .gt 7, 3), (28, .iconst 1, 1), (29, .goto 4, 3), (32, .iconst 0, 1), (33, .istore 6, 2), (35, .iload 6, 2), (37, .ifCond .eq 14, 3), (40, .iload_n 3, 1), (41, .iload 4, 2), (43, .iload 5, 2), (45, .invokestatic 170, 3)] := by unfold decs; decide +kernel
theorem dX11_parted_0 : decode cX11_parted 0 = .ok (.iload_n 1, 1) := decs_at DX11_parted_0 0 rfl
theorem dX11_parted_1 : decode cX11_parted 1 = .ok (.iconst 1, 1) := decs_at DX11_parted_0 1 rfl
theorem dX11_parted_2 : decode cX11_parted 2 = .ok (.if_icmp .lt 30, 3) := decs_at DX11_parted_0 2 rfl
theorem dX11_parted_5 : decode cX11_parted 5 = .ok (.iload_n 1, 1) := decs_at DX11_parted_0 3 rfl
theorem dX11_parted_6 : decode cX11_parted 6 = .ok (.aload_n 0, 1) := decs_at DX11_parted_0 4 rfl
theorem dX11_parted_7 : decode cX11_parted 7 = .ok (.getfield 44, 3) := decs_at DX11_parted_0 5 rfl
theorem dX11_parted_10 : decode cX11_parted 10 = .ok (.getfield 198, 3) := decs_at DX11_parted_0 6 rfl
theorem dX11_parted_13 : decode cX11_parted 13 = .ok (.if_icmp .ge 19, 3) := decs_at DX11_parted_0 7 rfl
theorem dX11_parted_16 : decode cX11_parted 16 = .ok (.iload_n 2, 1) := decs_at DX11_parted_0 8 rfl
theorem dX11_parted_17 : decode cX11_parted 17 = .ok (.iconst 1, 1) := decs_at DX11_parted_0 9 rfl
theorem dX11_parted_18 : decode cX11_parted 18 = .ok (.if_icmp .lt 14, 3) := decs_at DX11_parted_0 10 rfl
theorem dX11_parted_21 : decode cX11_parted 21 = .ok (.iload_n 2, 1) := decs_at DX11_parted_0 11 rfl
theorem dX11_parted_22 : decode cX11_parted 22 = .ok (.sipush 600, 3) := decs_at DX11_parted_0 12 rfl
theorem dX11_parted_25 : decode cX11_parted 25 = .ok (.if_icmp .gt 7, 3) := decs_at DX11_parted_0 13 rfl
theorem dX11_parted_28 : decode cX11_parted 28 = .ok (.iconst 1, 1) := decs_at DX11_parted_0 14 rfl
theorem dX11_parted_29 : decode cX11_parted 29 = .ok (.goto 4, 3) := decs_at DX11_parted_0 15 rfl
theorem dX11_parted_32 : decode cX11_parted 32 = .ok (.iconst 0, 1) := decs_at DX11_parted_0 16 rfl
theorem dX11_parted_33 : decode cX11_parted 33 = .ok (.istore 6, 2) := decs_at DX11_parted_0 17 rfl
theorem dX11_parted_35 : decode cX11_parted 35 = .ok (.iload 6, 2) := decs_at DX11_parted_0 18 rfl
theorem dX11_parted_37 : decode cX11_parted 37 = .ok (.ifCond .eq 14, 3) := decs_at DX11_parted_0 19 rfl
theorem dX11_parted_40 : decode cX11_parted 40 = .ok (.iload_n 3, 1) := decs_at DX11_parted_0 20 rfl
theorem dX11_parted_41 : decode cX11_parted 41 = .ok (.iload 4, 2) := decs_at DX11_parted_0 21 rfl
theorem dX11_parted_43 : decode cX11_parted 43 = .ok (.iload 5, 2) := decs_at DX11_parted_0 22 rfl
theorem dX11_parted_45 : decode cX11_parted 45 = .ok (.invokestatic 170, 3) := decs_at DX11_parted_0 23 rfl
theorem DX11_parted_24 : decs cX11_parted [(48, .ifCond .ne 6, 3), (51, .bipush (-2), 2), (53, .ireturn, 1), (54, .aload_n 0, 1), (55, .getfield 74, 3), (58, .iload_n 3, 1), (59, .iload 4, 2), (61, .iload 5, 2), (63, .invokevirtual 191, 3), (66, .aload_n 0, 1), (67, .getfield 74, 3), (70, .iload_n 1, 1), (71, .iload_n 2, 1), (72, .invokevirtual 199, 3), (75, .ireturn, 1)] := by unfold decs; decide +kernel
theorem dX11_parted_48 : decode cX11_parted 48 = .ok (.ifCond .ne 6, 3) := decs_at DX11_parted_24 0 rfl
theorem dX11_parted_51 : decode cX11_parted 51 = .ok (.bipush (-2), 2) := decs_at DX11_parted_24 1 rfl
theorem dX11_parted_53 : decode cX11_parted 53 = .ok (.ireturn, 1) := decs_at DX11_parted_24 2 rfl
theorem dX11_parted_54 : decode cX11_parted 54 = .ok (.aload_n 0, 1) := decs_at DX11_parted_24 3 rfl
theorem dX11_parted_55 : decode cX11_parted 55 = .ok (.getfield 74, 3) := decs_at DX11_parted_24 4 rfl
theorem dX11_parted_58 : decode cX11_parted 58 = .ok (.iload_n 3, 1) := decs_at DX11_parted_24 5 rfl
theorem dX11_parted_59 : decode cX11_parted 59 = .ok (.iload 4, 2) := decs_at DX11_parted_24 6 rfl
theorem dX11_parted_61 : decode cX11_parted 61 = .ok (.iload 5, 2) := decs_at DX11_parted_24 7 rfl
theorem dX11_parted_63 : decode cX11_parted 63 = .ok (.invokevirtual 191, 3) := decs_at DX11_parted_24 8 rfl
theorem dX11_parted_66 : decode cX11_parted 66 = .ok (.aload_n 0, 1) := decs_at DX11_parted_24 9 rfl
theorem dX11_parted_67 : decode cX11_parted 67 = .ok (.getfield 74, 3) := decs_at DX11_parted_24 10 rfl
theorem dX11_parted_70 : decode cX11_parted 70 = .ok (.iload_n 1, 1) := decs_at DX11_parted_24 11 rfl
theorem dX11_parted_71 : decode cX11_parted 71 = .ok (.iload_n 2, 1) := decs_at DX11_parted_24 12 rfl
theorem dX11_parted_72 : decode cX11_parted 72 = .ok (.invokevirtual 199, 3) := decs_at DX11_parted_24 13 rfl
theorem dX11_parted_75 : decode cX11_parted 75 = .ok (.ireturn, 1) := decs_at DX11_parted_24 14 rfl
theorem DX11_order_0 : decs cX11_order [(0, .iload 4, 2), (2, .ifCond .eq 9, 3), (5, .iload 4, 2), (7, .iconst 1, 1), (8, .if_icmp .ne 19, 3), (11, .aload_n 0, 1), (12, .getfield 44, 3), (15, .getfield 198, 3), (18, .bipush 6, 2), (20, .if_icmp .gt 7, 3), (23, .iconst 1, 1), (24, .goto 4, 3), (27, .iconst 0, 1), (28, .istore 5, 2), (30, .iload 5, 2), (32, .ifCond .eq 12, 3), (35, .iload_n 1, 1), (36, .iload_n 2, 1), (37, .iload_n 3, 1), (38, .invokestatic 170, 3), (41, .ifCond .ne 6, 3), (44, .bipush (-2), 2), (46, .ireturn, 1), (47, .aload_n 0, 1)] := by unfold decs; decide +kernel
theorem dX11_order_0 : decode cX11_order 0 = .ok (.iload 4, 2) := decs_at DX11_order_0 0 rfl
theorem dX11_order_2 : decode cX11_order 2 = .ok (.ifCond .eq 9, 3) := decs_at DX11_order_0 1 rfl
theorem dX11_order_5 : decode cX11_order 5 = .ok (.iload 4, 2) := decs_at DX11_order_0 2 rfl
theorem dX11_order_7 : decode cX11_order 7 = .ok (.iconst 1, 1) := decs_at DX11_order_0 3 rfl
theorem dX11_order_8 : decode cX11_order 8 = .ok (.if_icmp .ne 19, 3) := decs_at DX11_order_0 4 rfl
theorem dX11_order_11 : decode cX11_order 11 = .ok (.aload_n 0, 1) := decs_at DX11_order_0 5 rfl
theorem dX11_order_12 : decode cX11_order 12 = .ok (.getfield 44, 3) := decs_at DX11_order_0 6 rfl
theorem dX11_order_15 : decode cX11_order 15 = .ok (.getfield 198, 3) := decs_at DX11_order_0 7 rfl
theorem dX11_order_18 : decode cX11_order 18 = .ok (.bipush 6, 2) := decs_at DX11_order_0 8 rfl
theorem dX11_order_20 : decode cX11_order 20 = .ok (.if_icmp .gt 7, 3) := decs_at DX11_order_0 9 rfl
theorem dX11_order_23 : decode cX11_order 23 = .ok (.iconst 1, 1) := decs_at DX11_order_0 10 rfl
theorem dX11_order_24 : decode cX11_order 24 = .ok (.goto 4, 3) := decs_at DX11_order_0 11 rfl
theorem dX11_order_27 : decode cX11_order 27 = .ok (.iconst 0, 1) := decs_at DX11_order_0 12 rfl
theorem dX11_order_28 : decode cX11_order 28 = .ok (.istore 5, 2) := decs_at DX11_order_0 13 rfl
theorem dX11_order_30 : decode cX11_order 30 = .ok (.iload 5, 2) := decs_at DX11_order_0 14 rfl
theorem dX11_order_32 : decode cX11_order 32 = .ok (.ifCond .eq 12, 3) := decs_at DX11_order_0 15 rfl
theorem dX11_order_35 : decode cX11_order 35 = .ok (.iload_n 1, 1) := decs_at DX11_order_0 16 rfl
theorem dX11_order_36 : decode cX11_order 36 = .ok (.iload_n 2, 1) := decs_at DX11_order_0 17 rfl
theorem dX11_order_37 : decode cX11_order 37 = .ok (.iload_n 3, 1) := decs_at DX11_order_0 18 rfl
theorem dX11_order_38 : decode cX11_order 38 = .ok (.invokestatic 170, 3) := decs_at DX11_order_0 19 rfl
theorem dX11_order_41 : decode cX11_order 41 = .ok (.ifCond .ne 6, 3) := decs_at DX11_order_0 20 rfl
theorem dX11_order_44 : decode cX11_order 44 = .ok (.bipush (-2), 2) := decs_at DX11_order_0 21 rfl
theorem dX11_order_46 : decode cX11_order 46 = .ok (.ireturn, 1) := decs_at DX11_order_0 22 rfl
theorem dX11_order_47 : decode cX11_order 47 = .ok (.aload_n 0, 1) := decs_at DX11_order_0 23 rfl
theorem DX11_order_24 : decs cX11_order [(48, .getfield 74, 3), (51, .iload_n 1, 1), (52, .iload_n 2, 1), (53, .iload_n 3, 1), (54, .invokevirtual 191, 3), (57, .iload 4, 2), (59, .ifCond .ne 13, 3), (62, .aload_n 0, 1), (63, .getfield 74, 3), (66, .invokevirtual 202, 3), (69, .goto 10, 3), (72, .aload_n 0, 1), (73, .getfield 74, 3), (76, .invokevirtual 205, 3), (79, .ireturn, 1)] := by unfold decs; decide +kernel
theorem dX11_order_48 : decode cX11_order 48 = .ok (.getfield 74, 3) := decs_at DX11_order_24 0 rfl
theorem dX11_order_51 : decode cX11_order 51 = .ok (.iload_n 1, 1) := decs_at DX11_order_24 1 rfl
theorem dX11_order_52 : decode cX11_order 52 = .ok (.iload_n 2, 1) := decs_at DX11_order_24 2 rfl
theorem dX11_order_53 : decode cX11_order 53 = .ok (.iload_n 3, 1) := decs_at DX11_order_24 3 rfl
theorem dX11_order_54 : decode cX11_order 54 = .ok (.invokevirtual 191, 3) := decs_at DX11_order_24 4 rfl
theorem dX11_order_57 : decode cX11_order 57 = .ok (.iload 4, 2) := decs_at DX11_order_24 5 rfl
theorem dX11_order_59 : decode cX11_order 59 = .ok (.ifCond .ne 13, 3) := decs_at DX11_order_24 6 rfl
theorem dX11_order_62 : decode cX11_order 62 = .ok (.aload_n 0, 1) := decs_at DX11_order_24 7 rfl
theorem dX11_order_63 : decode cX11_order 63 = .ok (.getfield 74, 3) := decs_at DX11_order_24 8 rfl
theorem dX11_order_66 : decode cX11_order 66 = .ok (.invokevirtual 202, 3) := decs_at DX11_order_24 9 rfl
theorem dX11_order_69 : decode cX11_order 69 = .ok (.goto 10, 3) := decs_at DX11_order_24 10 rfl
theorem dX11_order_72 : decode cX11_order 72 = .ok (.aload_n 0, 1) := decs_at DX11_order_24 11 rfl
theorem dX11_order_73 : decode cX11_order 73 = .ok (.getfield 74, 3) := decs_at DX11_order_24 12 rfl
theorem dX11_order_76 : decode cX11_order 76 = .ok (.invokevirtual 205, 3) := decs_at DX11_order_24 13 rfl
theorem dX11_order_79 : decode cX11_order 79 = .ok (.ireturn, 1) := decs_at DX11_order_24 14 rfl
theorem DX11_ordered_0 : decs cX11_ordered [(0, .aload_n 0, 1), (1, .getfield 74, 3), (4, .iload_n 1, 1), (5, .invokevirtual 208, 3), (8, .ireturn, 1)] := by unfold decs; decide +kernel
theorem dX11_ordered_0 : decode cX11_ordered 0 = .ok (.aload_n 0, 1) := decs_at DX11_ordered_0 0 rfl
theorem dX11_ordered_1 : decode cX11_ordered 1 = .ok (.getfield 74, 3) := decs_at DX11_ordered_0 1 rfl
theorem dX11_ordered_4 : decode cX11_ordered 4 = .ok (.iload_n 1, 1) := decs_at DX11_ordered_0 2 rfl
theorem dX11_ordered_5 : decode cX11_ordered 5 = .ok (.invokevirtual 208, 3) := decs_at DX11_ordered_0 3 rfl
theorem dX11_ordered_8 : decode cX11_ordered 8 = .ok (.ireturn, 1) := decs_at DX11_ordered_0 4 rfl
theorem DX11_cut_0 : decs cX11_cut [(0, .iload 4, 2), (2, .ifCond .lt 19, 3), (5, .aload_n 0, 1), (6, .getfield 44, 3), (9, .getfield 198, 3), (12, .bipush 10, 2), (14, .if_icmp .gt 7, 3), (17, .iconst 1, 1), (18, .goto 4, 3), (21, .iconst 0, 1), (22, .istore 5, 2), (24, .iload 5, 2), (26, .ifCond .eq 12, 3), (29, .iload_n 1, 1), (30, .iload_n 2, 1), (31, .iload_n 3, 1), (32, .invokestatic 170, 3), (35, .ifCond .ne 6, 3), (38, .bipush (-2), 2), (40, .ireturn, 1), (41, .aload_n 0, 1), (42, .getfield 74, 3), (45, .iload_n 1, 1), (46, .iload_n 2, 1)] := by unfold decs; decide +kernel
theorem dX11_cut_0 : decode cX11_cut 0 = .ok (.iload 4, 2) := decs_at DX11_cut_0 0 rfl
theorem dX11_cut_2 : decode cX11_cut 2 = .ok (.ifCond .lt 19, 3) := decs_at DX11_cut_0 1 rfl
theorem dX11_cut_5 : decode cX11_cut 5 = .ok (.aload_n 0, 1) := decs_at DX11_cut_0 2 rfl
theorem dX11_cut_6 : decode cX11_cut 6 = .ok (.getfield 44, 3) := decs_at DX11_cut_0 3 rfl
theorem dX11_cut_9 : decode cX11_cut 9 = .ok (.getfield 198, 3) := decs_at DX11_cut_0 4 rfl
theorem dX11_cut_12 : decode cX11_cut 12 = .ok (.bipush 10, 2) := decs_at DX11_cut_0 5 rfl
theorem dX11_cut_14 : decode cX11_cut 14 = .ok (.if_icmp .gt 7, 3) := decs_at DX11_cut_0 6 rfl
theorem dX11_cut_17 : decode cX11_cut 17 = .ok (.iconst 1, 1) := decs_at DX11_cut_0 7 rfl
theorem dX11_cut_18 : decode cX11_cut 18 = .ok (.goto 4, 3) := decs_at DX11_cut_0 8 rfl
theorem dX11_cut_21 : decode cX11_cut 21 = .ok (.iconst 0, 1) := decs_at DX11_cut_0 9 rfl
theorem dX11_cut_22 : decode cX11_cut 22 = .ok (.istore 5, 2) := decs_at DX11_cut_0 10 rfl
theorem dX11_cut_24 : decode cX11_cut 24 = .ok (.iload 5, 2) := decs_at DX11_cut_0 11 rfl
theorem dX11_cut_26 : decode cX11_cut 26 = .ok (.ifCond .eq 12, 3) := decs_at DX11_cut_0 12 rfl
theorem dX11_cut_29 : decode cX11_cut 29 = .ok (.iload_n 1, 1) := decs_at DX11_cut_0 13 rfl
theorem dX11_cut_30 : decode cX11_cut 30 = .ok (.iload_n 2, 1) := decs_at DX11_cut_0 14 rfl
theorem dX11_cut_31 : decode cX11_cut 31 = .ok (.iload_n 3, 1) := decs_at DX11_cut_0 15 rfl
theorem dX11_cut_32 : decode cX11_cut 32 = .ok (.invokestatic 170, 3) := decs_at DX11_cut_0 16 rfl
theorem dX11_cut_35 : decode cX11_cut 35 = .ok (.ifCond .ne 6, 3) := decs_at DX11_cut_0 17 rfl
theorem dX11_cut_38 : decode cX11_cut 38 = .ok (.bipush (-2), 2) := decs_at DX11_cut_0 18 rfl
theorem dX11_cut_40 : decode cX11_cut 40 = .ok (.ireturn, 1) := decs_at DX11_cut_0 19 rfl
theorem dX11_cut_41 : decode cX11_cut 41 = .ok (.aload_n 0, 1) := decs_at DX11_cut_0 20 rfl
theorem dX11_cut_42 : decode cX11_cut 42 = .ok (.getfield 74, 3) := decs_at DX11_cut_0 21 rfl
theorem dX11_cut_45 : decode cX11_cut 45 = .ok (.iload_n 1, 1) := decs_at DX11_cut_0 22 rfl
theorem dX11_cut_46 : decode cX11_cut 46 = .ok (.iload_n 2, 1) := decs_at DX11_cut_0 23 rfl
theorem DX11_cut_24 : decs cX11_cut [(47, .iload_n 3, 1), (48, .invokevirtual 191, 3), (51, .aload_n 0, 1), (52, .getfield 74, 3), (55, .iload 4, 2), (57, .invokevirtual 211, 3), (60, .ireturn, 1)] := by unfold decs; decide +kernel
theorem dX11_cut_47 : decode cX11_cut 47 = .ok (.iload_n 3, 1) := decs_at DX11_cut_24 0 rfl
theorem dX11_cut_48 : decode cX11_cut 48 = .ok (.invokevirtual 191, 3) := decs_at DX11_cut_24 1 rfl
theorem dX11_cut_51 : decode cX11_cut 51 = .ok (.aload_n 0, 1) := decs_at DX11_cut_24 2 rfl
theorem dX11_cut_52 : decode cX11_cut 52 = .ok (.getfield 74, 3) := decs_at DX11_cut_24 3 rfl
theorem dX11_cut_55 : decode cX11_cut 55 = .ok (.iload 4, 2) := decs_at DX11_cut_24 4 rfl
theorem dX11_cut_57 : decode cX11_cut 57 = .ok (.invokevirtual 211, 3) := decs_at DX11_cut_24 5 rfl
theorem dX11_cut_60 : decode cX11_cut 60 = .ok (.ireturn, 1) := decs_at DX11_cut_24 6 rfl
theorem DX11_fits_0 : decs cX11_fits [(0, .aload_n 0, 1), (1, .getfield 81, 3), (4, .aload_n 0, 1), (5, .getfield 12, 3), (8, .invokevirtual 214, 3), (11, .istore_n 3, 1), (12, .aload_n 0, 1), (13, .getfield 12, 3), (16, .iconst 0, 1), (17, .invokevirtual 115, 3), (20, .pop, 1), (21, .iload_n 2, 1), (22, .iconst (-1), 1), (23, .if_icmp .lt 20, 3), (26, .iload_n 2, 1), (27, .iconst 1, 1), (28, .aload_n 0, 1), (29, .getfield 44, 3), (32, .getfield 198, 3), (35, .ishl, 1), (36, .if_icmp .ge 7, 3), (39, .iconst 1, 1), (40, .goto 4, 3), (43, .iconst 0, 1)] := by unfold decs; decide +kernel
theorem dX11_fits_0 : decode cX11_fits 0 = .ok (.aload_n 0, 1) := decs_at DX11_fits_0 0 rfl
theorem dX11_fits_1 : decode cX11_fits 1 = .ok (.getfield 81, 3) := decs_at DX11_fits_0 1 rfl
theorem dX11_fits_4 : decode cX11_fits 4 = .ok (.aload_n 0, 1) := decs_at DX11_fits_0 2 rfl
theorem dX11_fits_5 : decode cX11_fits 5 = .ok (.getfield 12, 3) := decs_at DX11_fits_0 3 rfl
theorem dX11_fits_8 : decode cX11_fits 8 = .ok (.invokevirtual 214, 3) := decs_at DX11_fits_0 4 rfl
theorem dX11_fits_11 : decode cX11_fits 11 = .ok (.istore_n 3, 1) := decs_at DX11_fits_0 5 rfl
theorem dX11_fits_12 : decode cX11_fits 12 = .ok (.aload_n 0, 1) := decs_at DX11_fits_0 6 rfl
theorem dX11_fits_13 : decode cX11_fits 13 = .ok (.getfield 12, 3) := decs_at DX11_fits_0 7 rfl
theorem dX11_fits_16 : decode cX11_fits 16 = .ok (.iconst 0, 1) := decs_at DX11_fits_0 8 rfl
theorem dX11_fits_17 : decode cX11_fits 17 = .ok (.invokevirtual 115, 3) := decs_at DX11_fits_0 9 rfl
theorem dX11_fits_20 : decode cX11_fits 20 = .ok (.pop, 1) := decs_at DX11_fits_0 10 rfl
theorem dX11_fits_21 : decode cX11_fits 21 = .ok (.iload_n 2, 1) := decs_at DX11_fits_0 11 rfl
theorem dX11_fits_22 : decode cX11_fits 22 = .ok (.iconst (-1), 1) := decs_at DX11_fits_0 12 rfl
theorem dX11_fits_23 : decode cX11_fits 23 = .ok (.if_icmp .lt 20, 3) := decs_at DX11_fits_0 13 rfl
theorem dX11_fits_26 : decode cX11_fits 26 = .ok (.iload_n 2, 1) := decs_at DX11_fits_0 14 rfl
theorem dX11_fits_27 : decode cX11_fits 27 = .ok (.iconst 1, 1) := decs_at DX11_fits_0 15 rfl
theorem dX11_fits_28 : decode cX11_fits 28 = .ok (.aload_n 0, 1) := decs_at DX11_fits_0 16 rfl
theorem dX11_fits_29 : decode cX11_fits 29 = .ok (.getfield 44, 3) := decs_at DX11_fits_0 17 rfl
theorem dX11_fits_32 : decode cX11_fits 32 = .ok (.getfield 198, 3) := decs_at DX11_fits_0 18 rfl
theorem dX11_fits_35 : decode cX11_fits 35 = .ok (.ishl, 1) := decs_at DX11_fits_0 19 rfl
theorem dX11_fits_36 : decode cX11_fits 36 = .ok (.if_icmp .ge 7, 3) := decs_at DX11_fits_0 20 rfl
theorem dX11_fits_39 : decode cX11_fits 39 = .ok (.iconst 1, 1) := decs_at DX11_fits_0 21 rfl
theorem dX11_fits_40 : decode cX11_fits 40 = .ok (.goto 4, 3) := decs_at DX11_fits_0 22 rfl
theorem dX11_fits_43 : decode cX11_fits 43 = .ok (.iconst 0, 1) := decs_at DX11_fits_0 23 rfl
theorem DX11_fits_24 : decs cX11_fits [(44, .istore 4, 2), (46, .iload_n 3, 1), (47, .ifCond .eq 18, 3), (50, .iload 4, 2), (52, .ifCond .eq 13, 3), (55, .iload_n 1, 1), (56, .ifCond .lt 9, 3), (59, .iload_n 1, 1), (60, .bipush 99, 2), (62, .if_icmp .le 5, 3), (65, .iconst (-1), 1), (66, .ireturn, 1), (67, .aload_n 0, 1), (68, .getfield 81, 3), (71, .iload_n 1, 1), (72, .iload_n 2, 1), (73, .invokevirtual 218, 3), (76, .ireturn, 1)] := by unfold decs; decide +kernel
theorem dX11_fits_44 : decode cX11_fits 44 = .ok (.istore 4, 2) := decs_at DX11_fits_24 0 rfl
theorem dX11_fits_46 : decode cX11_fits 46 = .ok (.iload_n 3, 1) := decs_at DX11_fits_24 1 rfl
theorem dX11_fits_47 : decode cX11_fits 47 = .ok (.ifCond .eq 18, 3) := decs_at DX11_fits_24 2 rfl
theorem dX11_fits_50 : decode cX11_fits 50 = .ok (.iload 4, 2) := decs_at DX11_fits_24 3 rfl
theorem dX11_fits_52 : decode cX11_fits 52 = .ok (.ifCond .eq 13, 3) := decs_at DX11_fits_24 4 rfl
theorem dX11_fits_55 : decode cX11_fits 55 = .ok (.iload_n 1, 1) := decs_at DX11_fits_24 5 rfl
theorem dX11_fits_56 : decode cX11_fits 56 = .ok (.ifCond .lt 9, 3) := decs_at DX11_fits_24 6 rfl
theorem dX11_fits_59 : decode cX11_fits 59 = .ok (.iload_n 1, 1) := decs_at DX11_fits_24 7 rfl
theorem dX11_fits_60 : decode cX11_fits 60 = .ok (.bipush 99, 2) := decs_at DX11_fits_24 8 rfl
theorem dX11_fits_62 : decode cX11_fits 62 = .ok (.if_icmp .le 5, 3) := decs_at DX11_fits_24 9 rfl
theorem dX11_fits_65 : decode cX11_fits 65 = .ok (.iconst (-1), 1) := decs_at DX11_fits_24 10 rfl
theorem dX11_fits_66 : decode cX11_fits 66 = .ok (.ireturn, 1) := decs_at DX11_fits_24 11 rfl
theorem dX11_fits_67 : decode cX11_fits 67 = .ok (.aload_n 0, 1) := decs_at DX11_fits_24 12 rfl
theorem dX11_fits_68 : decode cX11_fits 68 = .ok (.getfield 81, 3) := decs_at DX11_fits_24 13 rfl
theorem dX11_fits_71 : decode cX11_fits 71 = .ok (.iload_n 1, 1) := decs_at DX11_fits_24 14 rfl
theorem dX11_fits_72 : decode cX11_fits 72 = .ok (.iload_n 2, 1) := decs_at DX11_fits_24 15 rfl
theorem dX11_fits_73 : decode cX11_fits 73 = .ok (.invokevirtual 218, 3) := decs_at DX11_fits_24 16 rfl
theorem dX11_fits_76 : decode cX11_fits 76 = .ok (.ireturn, 1) := decs_at DX11_fits_24 17 rfl
theorem DX11_fitAt_0 : decs cX11_fitAt [(0, .aload_n 0, 1), (1, .getfield 81, 3), (4, .iload_n 1, 1), (5, .invokevirtual 221, 3), (8, .ireturn, 1)] := by unfold decs; decide +kernel
theorem dX11_fitAt_0 : decode cX11_fitAt 0 = .ok (.aload_n 0, 1) := decs_at DX11_fitAt_0 0 rfl
theorem dX11_fitAt_1 : decode cX11_fitAt 1 = .ok (.getfield 81, 3) := decs_at DX11_fitAt_0 1 rfl
theorem dX11_fitAt_4 : decode cX11_fitAt 4 = .ok (.iload_n 1, 1) := decs_at DX11_fitAt_0 2 rfl
theorem dX11_fitAt_5 : decode cX11_fitAt 5 = .ok (.invokevirtual 221, 3) := decs_at DX11_fitAt_0 3 rfl
theorem dX11_fitAt_8 : decode cX11_fitAt 8 = .ok (.ireturn, 1) := decs_at DX11_fitAt_0 4 rfl
theorem DX11_walks_0 : decs cX11_walks [(0, .iload_n 1, 1), (1, .iconst 1, 1), (2, .if_icmp .lt 20, 3), (5, .iload_n 1, 1), (6, .sipush 400, 3), (9, .if_icmp .gt 13, 3), (12, .aload_n 0, 1), (13, .getfield 81, 3), (16, .invokevirtual 224, 3), (19, .ifCond .ne 5, 3), (22, .iconst (-1), 1), (23, .ireturn, 1), (24, .aload_n 0, 1), (25, .getfield 81, 3), (28, .iload_n 1, 1), (29, .invokevirtual 228, 3), (32, .ireturn, 1)] := by unfold decs; decide +kernel
theorem dX11_walks_0 : decode cX11_walks 0 = .ok (.iload_n 1, 1) := decs_at DX11_walks_0 0 rfl
theorem dX11_walks_1 : decode cX11_walks 1 = .ok (.iconst 1, 1) := decs_at DX11_walks_0 1 rfl
theorem dX11_walks_2 : decode cX11_walks 2 = .ok (.if_icmp .lt 20, 3) := decs_at DX11_walks_0 2 rfl
theorem dX11_walks_5 : decode cX11_walks 5 = .ok (.iload_n 1, 1) := decs_at DX11_walks_0 3 rfl
theorem dX11_walks_6 : decode cX11_walks 6 = .ok (.sipush 400, 3) := decs_at DX11_walks_0 4 rfl
theorem dX11_walks_9 : decode cX11_walks 9 = .ok (.if_icmp .gt 13, 3) := decs_at DX11_walks_0 5 rfl
theorem dX11_walks_12 : decode cX11_walks 12 = .ok (.aload_n 0, 1) := decs_at DX11_walks_0 6 rfl
theorem dX11_walks_13 : decode cX11_walks 13 = .ok (.getfield 81, 3) := decs_at DX11_walks_0 7 rfl
theorem dX11_walks_16 : decode cX11_walks 16 = .ok (.invokevirtual 224, 3) := decs_at DX11_walks_0 8 rfl
theorem dX11_walks_19 : decode cX11_walks 19 = .ok (.ifCond .ne 5, 3) := decs_at DX11_walks_0 9 rfl
theorem dX11_walks_22 : decode cX11_walks 22 = .ok (.iconst (-1), 1) := decs_at DX11_walks_0 10 rfl
theorem dX11_walks_23 : decode cX11_walks 23 = .ok (.ireturn, 1) := decs_at DX11_walks_0 11 rfl
theorem dX11_walks_24 : decode cX11_walks 24 = .ok (.aload_n 0, 1) := decs_at DX11_walks_0 12 rfl
theorem dX11_walks_25 : decode cX11_walks 25 = .ok (.getfield 81, 3) := decs_at DX11_walks_0 13 rfl
theorem dX11_walks_28 : decode cX11_walks 28 = .ok (.iload_n 1, 1) := decs_at DX11_walks_0 14 rfl
theorem dX11_walks_29 : decode cX11_walks 29 = .ok (.invokevirtual 228, 3) := decs_at DX11_walks_0 15 rfl
theorem dX11_walks_32 : decode cX11_walks 32 = .ok (.ireturn, 1) := decs_at DX11_walks_0 16 rfl
theorem DX11_walked_0 : decs cX11_walked [(0, .aload_n 0, 1), (1, .getfield 81, 3), (4, .getfield 231, 3), (7, .ifCond .ne 5, 3), (10, .iconst (-1), 1), (11, .ireturn, 1), (12, .iload_n 1, 1), (13, .lookupswitch 43 #[(0, 27), (1, 35)], 27), (40, .aload_n 0, 1), (41, .getfield 81, 3), (44, .getfield 234, 3), (47, .ireturn, 1), (48, .aload_n 0, 1), (49, .getfield 81, 3), (52, .getfield 237, 3), (55, .ireturn, 1), (56, .iconst (-1), 1), (57, .ireturn, 1)] := by unfold decs; decide +kernel
theorem dX11_walked_0 : decode cX11_walked 0 = .ok (.aload_n 0, 1) := decs_at DX11_walked_0 0 rfl
theorem dX11_walked_1 : decode cX11_walked 1 = .ok (.getfield 81, 3) := decs_at DX11_walked_0 1 rfl
theorem dX11_walked_4 : decode cX11_walked 4 = .ok (.getfield 231, 3) := decs_at DX11_walked_0 2 rfl
theorem dX11_walked_7 : decode cX11_walked 7 = .ok (.ifCond .ne 5, 3) := decs_at DX11_walked_0 3 rfl
theorem dX11_walked_10 : decode cX11_walked 10 = .ok (.iconst (-1), 1) := decs_at DX11_walked_0 4 rfl
theorem dX11_walked_11 : decode cX11_walked 11 = .ok (.ireturn, 1) := decs_at DX11_walked_0 5 rfl
theorem dX11_walked_12 : decode cX11_walked 12 = .ok (.iload_n 1, 1) := decs_at DX11_walked_0 6 rfl
theorem dX11_walked_13 : decode cX11_walked 13 = .ok (.lookupswitch 43 #[(0, 27), (1, 35)], 27) := decs_at DX11_walked_0 7 rfl
theorem dX11_walked_40 : decode cX11_walked 40 = .ok (.aload_n 0, 1) := decs_at DX11_walked_0 8 rfl
theorem dX11_walked_41 : decode cX11_walked 41 = .ok (.getfield 81, 3) := decs_at DX11_walked_0 9 rfl
theorem dX11_walked_44 : decode cX11_walked 44 = .ok (.getfield 234, 3) := decs_at DX11_walked_0 10 rfl
theorem dX11_walked_47 : decode cX11_walked 47 = .ok (.ireturn, 1) := decs_at DX11_walked_0 11 rfl
theorem dX11_walked_48 : decode cX11_walked 48 = .ok (.aload_n 0, 1) := decs_at DX11_walked_0 12 rfl
theorem dX11_walked_49 : decode cX11_walked 49 = .ok (.getfield 81, 3) := decs_at DX11_walked_0 13 rfl
theorem dX11_walked_52 : decode cX11_walked 52 = .ok (.getfield 237, 3) := decs_at DX11_walked_0 14 rfl
theorem dX11_walked_55 : decode cX11_walked 55 = .ok (.ireturn, 1) := decs_at DX11_walked_0 15 rfl
theorem dX11_walked_56 : decode cX11_walked 56 = .ok (.iconst (-1), 1) := decs_at DX11_walked_0 16 rfl
theorem dX11_walked_57 : decode cX11_walked 57 = .ok (.ireturn, 1) := decs_at DX11_walked_0 17 rfl
theorem DX11_day_0 : decs cX11_day [(0, .aload_n 0, 1), (1, .getfield 88, 3), (4, .aload_n 0, 1), (5, .getfield 12, 3), (8, .invokevirtual 240, 3), (11, .lstore_n 2, 1), (12, .aload_n 0, 1), (13, .getfield 12, 3), (16, .iconst 0, 1), (17, .invokevirtual 115, 3), (20, .pop, 1), (21, .aload_n 0, 1), (22, .getfield 88, 3), (25, .lload_n 2, 1), (26, .iload_n 1, 1), (27, .invokevirtual 244, 3), (30, .ireturn, 1)] := by unfold decs; decide +kernel
theorem dX11_day_0 : decode cX11_day 0 = .ok (.aload_n 0, 1) := decs_at DX11_day_0 0 rfl
theorem dX11_day_1 : decode cX11_day 1 = .ok (.getfield 88, 3) := decs_at DX11_day_0 1 rfl
theorem dX11_day_4 : decode cX11_day 4 = .ok (.aload_n 0, 1) := decs_at DX11_day_0 2 rfl
theorem dX11_day_5 : decode cX11_day 5 = .ok (.getfield 12, 3) := decs_at DX11_day_0 3 rfl
theorem dX11_day_8 : decode cX11_day 8 = .ok (.invokevirtual 240, 3) := decs_at DX11_day_0 4 rfl
theorem dX11_day_11 : decode cX11_day 11 = .ok (.lstore_n 2, 1) := decs_at DX11_day_0 5 rfl
theorem dX11_day_12 : decode cX11_day 12 = .ok (.aload_n 0, 1) := decs_at DX11_day_0 6 rfl
theorem dX11_day_13 : decode cX11_day 13 = .ok (.getfield 12, 3) := decs_at DX11_day_0 7 rfl
theorem dX11_day_16 : decode cX11_day 16 = .ok (.iconst 0, 1) := decs_at DX11_day_0 8 rfl
theorem dX11_day_17 : decode cX11_day 17 = .ok (.invokevirtual 115, 3) := decs_at DX11_day_0 9 rfl
theorem dX11_day_20 : decode cX11_day 20 = .ok (.pop, 1) := decs_at DX11_day_0 10 rfl
theorem dX11_day_21 : decode cX11_day 21 = .ok (.aload_n 0, 1) := decs_at DX11_day_0 11 rfl
theorem dX11_day_22 : decode cX11_day 22 = .ok (.getfield 88, 3) := decs_at DX11_day_0 12 rfl
theorem dX11_day_25 : decode cX11_day 25 = .ok (.lload_n 2, 1) := decs_at DX11_day_0 13 rfl
theorem dX11_day_26 : decode cX11_day 26 = .ok (.iload_n 1, 1) := decs_at DX11_day_0 14 rfl
theorem dX11_day_27 : decode cX11_day 27 = .ok (.invokevirtual 244, 3) := decs_at DX11_day_0 15 rfl
theorem dX11_day_30 : decode cX11_day 30 = .ok (.ireturn, 1) := decs_at DX11_day_0 16 rfl
theorem DX11_mended_0 : decs cX11_mended [(0, .aload_n 0, 1), (1, .getfield 88, 3), (4, .iload_n 1, 1), (5, .invokevirtual 248, 3), (8, .ireturn, 1)] := by unfold decs; decide +kernel
theorem dX11_mended_0 : decode cX11_mended 0 = .ok (.aload_n 0, 1) := decs_at DX11_mended_0 0 rfl
theorem dX11_mended_1 : decode cX11_mended 1 = .ok (.getfield 88, 3) := decs_at DX11_mended_0 1 rfl
theorem dX11_mended_4 : decode cX11_mended 4 = .ok (.iload_n 1, 1) := decs_at DX11_mended_0 2 rfl
theorem dX11_mended_5 : decode cX11_mended 5 = .ok (.invokevirtual 248, 3) := decs_at DX11_mended_0 3 rfl
theorem dX11_mended_8 : decode cX11_mended 8 = .ok (.ireturn, 1) := decs_at DX11_mended_0 4 rfl
theorem DX11_suspects_0 : decs cX11_suspects [(0, .aload_n 0, 1), (1, .getfield 88, 3), (4, .iload_n 1, 1), (5, .invokevirtual 251, 3), (8, .ireturn, 1)] := by unfold decs; decide +kernel
theorem dX11_suspects_0 : decode cX11_suspects 0 = .ok (.aload_n 0, 1) := decs_at DX11_suspects_0 0 rfl
theorem dX11_suspects_1 : decode cX11_suspects 1 = .ok (.getfield 88, 3) := decs_at DX11_suspects_0 1 rfl
theorem dX11_suspects_4 : decode cX11_suspects 4 = .ok (.iload_n 1, 1) := decs_at DX11_suspects_0 2 rfl
theorem dX11_suspects_5 : decode cX11_suspects 5 = .ok (.invokevirtual 251, 3) := decs_at DX11_suspects_0 3 rfl
theorem dX11_suspects_8 : decode cX11_suspects 8 = .ok (.ireturn, 1) := decs_at DX11_suspects_0 4 rfl
theorem DX11_suspect_0 : decs cX11_suspect [(0, .aload_n 0, 1), (1, .getfield 88, 3), (4, .iload_n 1, 1), (5, .invokevirtual 254, 3), (8, .ireturn, 1)] := by unfold decs; decide +kernel
theorem dX11_suspect_0 : decode cX11_suspect 0 = .ok (.aload_n 0, 1) := decs_at DX11_suspect_0 0 rfl
theorem dX11_suspect_1 : decode cX11_suspect 1 = .ok (.getfield 88, 3) := decs_at DX11_suspect_0 1 rfl
theorem dX11_suspect_4 : decode cX11_suspect 4 = .ok (.iload_n 1, 1) := decs_at DX11_suspect_0 2 rfl
theorem dX11_suspect_5 : decode cX11_suspect 5 = .ok (.invokevirtual 254, 3) := decs_at DX11_suspect_0 3 rfl
theorem dX11_suspect_8 : decode cX11_suspect 8 = .ok (.ireturn, 1) := decs_at DX11_suspect_0 4 rfl
theorem DX11_next_0 : decs cX11_next [(0, .aload_n 0, 1), (1, .getfield 88, 3), (4, .aload_n 0, 1), (5, .getfield 12, 3), (8, .invokevirtual 240, 3), (11, .lstore_n 1, 1), (12, .aload_n 0, 1), (13, .getfield 12, 3), (16, .iconst 0, 1), (17, .invokevirtual 115, 3), (20, .pop, 1), (21, .aload_n 0, 1), (22, .getfield 88, 3), (25, .lload_n 1, 1), (26, .invokevirtual 257, 3), (29, .ireturn, 1)] := by unfold decs; decide +kernel
theorem dX11_next_0 : decode cX11_next 0 = .ok (.aload_n 0, 1) := decs_at DX11_next_0 0 rfl
theorem dX11_next_1 : decode cX11_next 1 = .ok (.getfield 88, 3) := decs_at DX11_next_0 1 rfl
theorem dX11_next_4 : decode cX11_next 4 = .ok (.aload_n 0, 1) := decs_at DX11_next_0 2 rfl
theorem dX11_next_5 : decode cX11_next 5 = .ok (.getfield 12, 3) := decs_at DX11_next_0 3 rfl
theorem dX11_next_8 : decode cX11_next 8 = .ok (.invokevirtual 240, 3) := decs_at DX11_next_0 4 rfl
theorem dX11_next_11 : decode cX11_next 11 = .ok (.lstore_n 1, 1) := decs_at DX11_next_0 5 rfl
theorem dX11_next_12 : decode cX11_next 12 = .ok (.aload_n 0, 1) := decs_at DX11_next_0 6 rfl
theorem dX11_next_13 : decode cX11_next 13 = .ok (.getfield 12, 3) := decs_at DX11_next_0 7 rfl
theorem dX11_next_16 : decode cX11_next 16 = .ok (.iconst 0, 1) := decs_at DX11_next_0 8 rfl
theorem dX11_next_17 : decode cX11_next 17 = .ok (.invokevirtual 115, 3) := decs_at DX11_next_0 9 rfl
theorem dX11_next_20 : decode cX11_next 20 = .ok (.pop, 1) := decs_at DX11_next_0 10 rfl
theorem dX11_next_21 : decode cX11_next 21 = .ok (.aload_n 0, 1) := decs_at DX11_next_0 11 rfl
theorem dX11_next_22 : decode cX11_next 22 = .ok (.getfield 88, 3) := decs_at DX11_next_0 12 rfl
theorem dX11_next_25 : decode cX11_next 25 = .ok (.lload_n 1, 1) := decs_at DX11_next_0 13 rfl
theorem dX11_next_26 : decode cX11_next 26 = .ok (.invokevirtual 257, 3) := decs_at DX11_next_0 14 rfl
theorem dX11_next_29 : decode cX11_next 29 = .ok (.ireturn, 1) := decs_at DX11_next_0 15 rfl
theorem DX11_count_0 : decs cX11_count [(0, .iload_n 1, 1), (1, .tableswitch 75 0 4 #[35, 43, 51, 59, 67], 35), (36, .aload_n 0, 1), (37, .getfield 44, 3), (40, .getfield 198, 3), (43, .ireturn, 1), (44, .aload_n 0, 1), (45, .getfield 51, 3), (48, .getfield 261, 3), (51, .ireturn, 1), (52, .aload_n 0, 1), (53, .getfield 88, 3), (56, .getfield 262, 3), (59, .ireturn, 1), (60, .aload_n 0, 1), (61, .getfield 51, 3), (64, .invokevirtual 265, 3), (67, .ireturn, 1), (68, .aload_n 0, 1), (69, .getfield 12, 3), (72, .getfield 112, 3), (75, .ireturn, 1), (76, .iconst (-1), 1), (77, .ireturn, 1)] := by unfold decs; decide +kernel
theorem dX11_count_0 : decode cX11_count 0 = .ok (.iload_n 1, 1) := decs_at DX11_count_0 0 rfl
theorem dX11_count_1 : decode cX11_count 1 = .ok (.tableswitch 75 0 4 #[35, 43, 51, 59, 67], 35) := decs_at DX11_count_0 1 rfl
theorem dX11_count_36 : decode cX11_count 36 = .ok (.aload_n 0, 1) := decs_at DX11_count_0 2 rfl
theorem dX11_count_37 : decode cX11_count 37 = .ok (.getfield 44, 3) := decs_at DX11_count_0 3 rfl
theorem dX11_count_40 : decode cX11_count 40 = .ok (.getfield 198, 3) := decs_at DX11_count_0 4 rfl
theorem dX11_count_43 : decode cX11_count 43 = .ok (.ireturn, 1) := decs_at DX11_count_0 5 rfl
theorem dX11_count_44 : decode cX11_count 44 = .ok (.aload_n 0, 1) := decs_at DX11_count_0 6 rfl
theorem dX11_count_45 : decode cX11_count 45 = .ok (.getfield 51, 3) := decs_at DX11_count_0 7 rfl
theorem dX11_count_48 : decode cX11_count 48 = .ok (.getfield 261, 3) := decs_at DX11_count_0 8 rfl
theorem dX11_count_51 : decode cX11_count 51 = .ok (.ireturn, 1) := decs_at DX11_count_0 9 rfl
theorem dX11_count_52 : decode cX11_count 52 = .ok (.aload_n 0, 1) := decs_at DX11_count_0 10 rfl
theorem dX11_count_53 : decode cX11_count 53 = .ok (.getfield 88, 3) := decs_at DX11_count_0 11 rfl
theorem dX11_count_56 : decode cX11_count 56 = .ok (.getfield 262, 3) := decs_at DX11_count_0 12 rfl
theorem dX11_count_59 : decode cX11_count 59 = .ok (.ireturn, 1) := decs_at DX11_count_0 13 rfl
theorem dX11_count_60 : decode cX11_count 60 = .ok (.aload_n 0, 1) := decs_at DX11_count_0 14 rfl
theorem dX11_count_61 : decode cX11_count 61 = .ok (.getfield 51, 3) := decs_at DX11_count_0 15 rfl
theorem dX11_count_64 : decode cX11_count 64 = .ok (.invokevirtual 265, 3) := decs_at DX11_count_0 16 rfl
theorem dX11_count_67 : decode cX11_count 67 = .ok (.ireturn, 1) := decs_at DX11_count_0 17 rfl
theorem dX11_count_68 : decode cX11_count 68 = .ok (.aload_n 0, 1) := decs_at DX11_count_0 18 rfl
theorem dX11_count_69 : decode cX11_count 69 = .ok (.getfield 12, 3) := decs_at DX11_count_0 19 rfl
theorem dX11_count_72 : decode cX11_count 72 = .ok (.getfield 112, 3) := decs_at DX11_count_0 20 rfl
theorem dX11_count_75 : decode cX11_count 75 = .ok (.ireturn, 1) := decs_at DX11_count_0 21 rfl
theorem dX11_count_76 : decode cX11_count 76 = .ok (.iconst (-1), 1) := decs_at DX11_count_0 22 rfl
theorem dX11_count_77 : decode cX11_count 77 = .ok (.ireturn, 1) := decs_at DX11_count_0 23 rfl
theorem DX11_isRun_0 : decs cX11_isRun [(0, .iload_n 0, 1), (1, .bipush (-40), 2), (3, .if_icmp .lt 34, 3), (6, .iload_n 0, 1), (7, .bipush 40, 2), (9, .if_icmp .gt 28, 3), (12, .iload_n 1, 1), (13, .ifCond .lt 24, 3), (16, .iload_n 1, 1), (17, .sipush 3000, 3), (20, .if_icmp .gt 17, 3), (23, .iload_n 2, 1), (24, .ifCond .lt 13, 3), (27, .iload_n 2, 1), (28, .bipush 90, 2), (30, .if_icmp .gt 7, 3), (33, .iconst 1, 1), (34, .goto 4, 3), (37, .iconst 0, 1), (38, .ireturn, 1)] := by unfold decs; decide +kernel
theorem dX11_isRun_0 : decode cX11_isRun 0 = .ok (.iload_n 0, 1) := decs_at DX11_isRun_0 0 rfl
theorem dX11_isRun_1 : decode cX11_isRun 1 = .ok (.bipush (-40), 2) := decs_at DX11_isRun_0 1 rfl
theorem dX11_isRun_3 : decode cX11_isRun 3 = .ok (.if_icmp .lt 34, 3) := decs_at DX11_isRun_0 2 rfl
theorem dX11_isRun_6 : decode cX11_isRun 6 = .ok (.iload_n 0, 1) := decs_at DX11_isRun_0 3 rfl
theorem dX11_isRun_7 : decode cX11_isRun 7 = .ok (.bipush 40, 2) := decs_at DX11_isRun_0 4 rfl
theorem dX11_isRun_9 : decode cX11_isRun 9 = .ok (.if_icmp .gt 28, 3) := decs_at DX11_isRun_0 5 rfl
theorem dX11_isRun_12 : decode cX11_isRun 12 = .ok (.iload_n 1, 1) := decs_at DX11_isRun_0 6 rfl
theorem dX11_isRun_13 : decode cX11_isRun 13 = .ok (.ifCond .lt 24, 3) := decs_at DX11_isRun_0 7 rfl
theorem dX11_isRun_16 : decode cX11_isRun 16 = .ok (.iload_n 1, 1) := decs_at DX11_isRun_0 8 rfl
theorem dX11_isRun_17 : decode cX11_isRun 17 = .ok (.sipush 3000, 3) := decs_at DX11_isRun_0 9 rfl
theorem dX11_isRun_20 : decode cX11_isRun 20 = .ok (.if_icmp .gt 17, 3) := decs_at DX11_isRun_0 10 rfl
theorem dX11_isRun_23 : decode cX11_isRun 23 = .ok (.iload_n 2, 1) := decs_at DX11_isRun_0 11 rfl
theorem dX11_isRun_24 : decode cX11_isRun 24 = .ok (.ifCond .lt 13, 3) := decs_at DX11_isRun_0 12 rfl
theorem dX11_isRun_27 : decode cX11_isRun 27 = .ok (.iload_n 2, 1) := decs_at DX11_isRun_0 13 rfl
theorem dX11_isRun_28 : decode cX11_isRun 28 = .ok (.bipush 90, 2) := decs_at DX11_isRun_0 14 rfl
theorem dX11_isRun_30 : decode cX11_isRun 30 = .ok (.if_icmp .gt 7, 3) := decs_at DX11_isRun_0 15 rfl
theorem dX11_isRun_33 : decode cX11_isRun 33 = .ok (.iconst 1, 1) := decs_at DX11_isRun_0 16 rfl
theorem dX11_isRun_34 : decode cX11_isRun 34 = .ok (.goto 4, 3) := decs_at DX11_isRun_0 17 rfl
theorem dX11_isRun_37 : decode cX11_isRun 37 = .ok (.iconst 0, 1) := decs_at DX11_isRun_0 18 rfl
theorem dX11_isRun_38 : decode cX11_isRun 38 = .ok (.ireturn, 1) := decs_at DX11_isRun_0 19 rfl
