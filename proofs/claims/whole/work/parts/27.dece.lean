theorem DX12_playTo_0 : decs cX12_playTo [(0, .aload_n 0, 1), (1, .invokevirtual 278, 3), (4, .iconst 1, 1), (5, .istore_n 2, 1), (6, .iload_n 2, 1), (7, .iload_n 1, 1), (8, .if_icmp .gt 14, 3), (11, .aload_n 0, 1), (12, .iload_n 2, 1), (13, .invokevirtual 281, 3), (16, .iinc 2 1, 3), (19, .goto (-13), 3), (22, .return_, 1)] := by unfold decs; decide +kernel
theorem dX12_playTo_0 : decode cX12_playTo 0 = .ok (.aload_n 0, 1) := decs_at DX12_playTo_0 0 rfl
theorem dX12_playTo_1 : decode cX12_playTo 1 = .ok (.invokevirtual 278, 3) := decs_at DX12_playTo_0 1 rfl
theorem dX12_playTo_4 : decode cX12_playTo 4 = .ok (.iconst 1, 1) := decs_at DX12_playTo_0 2 rfl
theorem dX12_playTo_5 : decode cX12_playTo 5 = .ok (.istore_n 2, 1) := decs_at DX12_playTo_0 3 rfl
theorem dX12_playTo_6 : decode cX12_playTo 6 = .ok (.iload_n 2, 1) := decs_at DX12_playTo_0 4 rfl
theorem dX12_playTo_7 : decode cX12_playTo 7 = .ok (.iload_n 1, 1) := decs_at DX12_playTo_0 5 rfl
theorem dX12_playTo_8 : decode cX12_playTo 8 = .ok (.if_icmp .gt 14, 3) := decs_at DX12_playTo_0 6 rfl
theorem dX12_playTo_11 : decode cX12_playTo 11 = .ok (.aload_n 0, 1) := decs_at DX12_playTo_0 7 rfl
theorem dX12_playTo_12 : decode cX12_playTo 12 = .ok (.iload_n 2, 1) := decs_at DX12_playTo_0 8 rfl
theorem dX12_playTo_13 : decode cX12_playTo 13 = .ok (.invokevirtual 281, 3) := decs_at DX12_playTo_0 9 rfl
theorem dX12_playTo_16 : decode cX12_playTo 16 = .ok (.iinc 2 1, 3) := decs_at DX12_playTo_0 10 rfl
theorem dX12_playTo_19 : decode cX12_playTo 19 = .ok (.goto (-13), 3) := decs_at DX12_playTo_0 11 rfl
theorem dX12_playTo_22 : decode cX12_playTo 22 = .ok (.return_, 1) := decs_at DX12_playTo_0 12 rfl
theorem DX12_at_0 : decs cX12_at [(0, .aload_n 0, 1), (1, .invokevirtual 198, 3), (4, .iload_n 1, 1), (5, .iconst 0, 1), (6, .sipush 600, 3), (9, .invokestatic 162, 3), (12, .ifCond .eq 32, 3), (15, .iload_n 3, 1), (16, .iconst 0, 1), (17, .iconst 2, 1), (18, .invokestatic 162, 3), (21, .ifCond .eq 23, 3), (24, .iload_n 2, 1), (25, .iload_n 3, 1), (26, .ifCond .ne 7, 3), (29, .iconst 0, 1), (30, .goto 4, 3), (33, .iconst 1, 1), (34, .aload_n 0, 1), (35, .getfield 16, 3), (38, .invokestatic 162, 3), (41, .ifCond .ne 8, 3), (44, .aload_n 0, 1), (45, .invokevirtual 244, 3)] := by unfold decs; decide +kernel
theorem dX12_at_0 : decode cX12_at 0 = .ok (.aload_n 0, 1) := decs_at DX12_at_0 0 rfl
theorem dX12_at_1 : decode cX12_at 1 = .ok (.invokevirtual 198, 3) := decs_at DX12_at_0 1 rfl
theorem dX12_at_4 : decode cX12_at 4 = .ok (.iload_n 1, 1) := decs_at DX12_at_0 2 rfl
theorem dX12_at_5 : decode cX12_at 5 = .ok (.iconst 0, 1) := decs_at DX12_at_0 3 rfl
theorem dX12_at_6 : decode cX12_at 6 = .ok (.sipush 600, 3) := decs_at DX12_at_0 4 rfl
theorem dX12_at_9 : decode cX12_at 9 = .ok (.invokestatic 162, 3) := decs_at DX12_at_0 5 rfl
theorem dX12_at_12 : decode cX12_at 12 = .ok (.ifCond .eq 32, 3) := decs_at DX12_at_0 6 rfl
theorem dX12_at_15 : decode cX12_at 15 = .ok (.iload_n 3, 1) := decs_at DX12_at_0 7 rfl
theorem dX12_at_16 : decode cX12_at 16 = .ok (.iconst 0, 1) := decs_at DX12_at_0 8 rfl
theorem dX12_at_17 : decode cX12_at 17 = .ok (.iconst 2, 1) := decs_at DX12_at_0 9 rfl
theorem dX12_at_18 : decode cX12_at 18 = .ok (.invokestatic 162, 3) := decs_at DX12_at_0 10 rfl
theorem dX12_at_21 : decode cX12_at 21 = .ok (.ifCond .eq 23, 3) := decs_at DX12_at_0 11 rfl
theorem dX12_at_24 : decode cX12_at 24 = .ok (.iload_n 2, 1) := decs_at DX12_at_0 12 rfl
theorem dX12_at_25 : decode cX12_at 25 = .ok (.iload_n 3, 1) := decs_at DX12_at_0 13 rfl
theorem dX12_at_26 : decode cX12_at 26 = .ok (.ifCond .ne 7, 3) := decs_at DX12_at_0 14 rfl
theorem dX12_at_29 : decode cX12_at 29 = .ok (.iconst 0, 1) := decs_at DX12_at_0 15 rfl
theorem dX12_at_30 : decode cX12_at 30 = .ok (.goto 4, 3) := decs_at DX12_at_0 16 rfl
theorem dX12_at_33 : decode cX12_at 33 = .ok (.iconst 1, 1) := decs_at DX12_at_0 17 rfl
theorem dX12_at_34 : decode cX12_at 34 = .ok (.aload_n 0, 1) := decs_at DX12_at_0 18 rfl
theorem dX12_at_35 : decode cX12_at 35 = .ok (.getfield 16, 3) := decs_at DX12_at_0 19 rfl
theorem dX12_at_38 : decode cX12_at 38 = .ok (.invokestatic 162, 3) := decs_at DX12_at_0 20 rfl
theorem dX12_at_41 : decode cX12_at 41 = .ok (.ifCond .ne 8, 3) := decs_at DX12_at_0 21 rfl
theorem dX12_at_44 : decode cX12_at 44 = .ok (.aload_n 0, 1) := decs_at DX12_at_0 22 rfl
theorem dX12_at_45 : decode cX12_at 45 = .ok (.invokevirtual 244, 3) := decs_at DX12_at_0 23 rfl
theorem DX12_at_24 : decs cX12_at [(48, .ireturn, 1), (49, .aload_n 0, 1), (50, .iconst 0, 1), (51, .putfield 106, 3), (54, .aload_n 0, 1), (55, .aload_n 0, 1), (56, .getfield 65, 3), (59, .invokevirtual 284, 3), (62, .aload_n 0, 1), (63, .iload_n 1, 1), (64, .invokevirtual 287, 3), (67, .iload_n 3, 1), (68, .ifCond .ne 12, 3), (71, .aload_n 0, 1), (72, .getfield 53, 3), (75, .iload_n 2, 1), (76, .iaload, 1), (77, .goto 23, 3), (80, .iload_n 3, 1), (81, .iconst 1, 1), (82, .if_icmp .ne 12, 3), (85, .aload_n 0, 1), (86, .getfield 56, 3), (89, .iload_n 2, 1)] := by unfold decs; decide +kernel
theorem dX12_at_48 : decode cX12_at 48 = .ok (.ireturn, 1) := decs_at DX12_at_24 0 rfl
theorem dX12_at_49 : decode cX12_at 49 = .ok (.aload_n 0, 1) := decs_at DX12_at_24 1 rfl
theorem dX12_at_50 : decode cX12_at 50 = .ok (.iconst 0, 1) := decs_at DX12_at_24 2 rfl
theorem dX12_at_51 : decode cX12_at 51 = .ok (.putfield 106, 3) := decs_at DX12_at_24 3 rfl
theorem dX12_at_54 : decode cX12_at 54 = .ok (.aload_n 0, 1) := decs_at DX12_at_24 4 rfl
theorem dX12_at_55 : decode cX12_at 55 = .ok (.aload_n 0, 1) := decs_at DX12_at_24 5 rfl
theorem dX12_at_56 : decode cX12_at 56 = .ok (.getfield 65, 3) := decs_at DX12_at_24 6 rfl
theorem dX12_at_59 : decode cX12_at 59 = .ok (.invokevirtual 284, 3) := decs_at DX12_at_24 7 rfl
theorem dX12_at_62 : decode cX12_at 62 = .ok (.aload_n 0, 1) := decs_at DX12_at_24 8 rfl
theorem dX12_at_63 : decode cX12_at 63 = .ok (.iload_n 1, 1) := decs_at DX12_at_24 9 rfl
theorem dX12_at_64 : decode cX12_at 64 = .ok (.invokevirtual 287, 3) := decs_at DX12_at_24 10 rfl
theorem dX12_at_67 : decode cX12_at 67 = .ok (.iload_n 3, 1) := decs_at DX12_at_24 11 rfl
theorem dX12_at_68 : decode cX12_at 68 = .ok (.ifCond .ne 12, 3) := decs_at DX12_at_24 12 rfl
theorem dX12_at_71 : decode cX12_at 71 = .ok (.aload_n 0, 1) := decs_at DX12_at_24 13 rfl
theorem dX12_at_72 : decode cX12_at 72 = .ok (.getfield 53, 3) := decs_at DX12_at_24 14 rfl
theorem dX12_at_75 : decode cX12_at 75 = .ok (.iload_n 2, 1) := decs_at DX12_at_24 15 rfl
theorem dX12_at_76 : decode cX12_at 76 = .ok (.iaload, 1) := decs_at DX12_at_24 16 rfl
theorem dX12_at_77 : decode cX12_at 77 = .ok (.goto 23, 3) := decs_at DX12_at_24 17 rfl
theorem dX12_at_80 : decode cX12_at 80 = .ok (.iload_n 3, 1) := decs_at DX12_at_24 18 rfl
theorem dX12_at_81 : decode cX12_at 81 = .ok (.iconst 1, 1) := decs_at DX12_at_24 19 rfl
theorem dX12_at_82 : decode cX12_at 82 = .ok (.if_icmp .ne 12, 3) := decs_at DX12_at_24 20 rfl
theorem dX12_at_85 : decode cX12_at 85 = .ok (.aload_n 0, 1) := decs_at DX12_at_24 21 rfl
theorem dX12_at_86 : decode cX12_at 86 = .ok (.getfield 56, 3) := decs_at DX12_at_24 22 rfl
theorem dX12_at_89 : decode cX12_at 89 = .ok (.iload_n 2, 1) := decs_at DX12_at_24 23 rfl
theorem DX12_at_48 : decs cX12_at [(90, .iaload, 1), (91, .goto 9, 3), (94, .aload_n 0, 1), (95, .getfield 59, 3), (98, .iload_n 2, 1), (99, .iaload, 1), (100, .ireturn, 1)] := by unfold decs; decide +kernel
theorem dX12_at_90 : decode cX12_at 90 = .ok (.iaload, 1) := decs_at DX12_at_48 0 rfl
theorem dX12_at_91 : decode cX12_at 91 = .ok (.goto 9, 3) := decs_at DX12_at_48 1 rfl
theorem dX12_at_94 : decode cX12_at 94 = .ok (.aload_n 0, 1) := decs_at DX12_at_48 2 rfl
theorem dX12_at_95 : decode cX12_at 95 = .ok (.getfield 59, 3) := decs_at DX12_at_48 3 rfl
theorem dX12_at_98 : decode cX12_at 98 = .ok (.iload_n 2, 1) := decs_at DX12_at_48 4 rfl
theorem dX12_at_99 : decode cX12_at 99 = .ok (.iaload, 1) := decs_at DX12_at_48 5 rfl
theorem dX12_at_100 : decode cX12_at 100 = .ok (.ireturn, 1) := decs_at DX12_at_48 6 rfl
theorem DX12_hears_0 : decs cX12_hears [(0, .aload_n 0, 1), (1, .iconst 0, 1), (2, .putfield 106, 3), (5, .aload_n 0, 1), (6, .invokevirtual 198, 3), (9, .iload_n 1, 1), (10, .iconst 1, 1), (11, .aload_n 0, 1), (12, .getfield 16, 3), (15, .invokestatic 162, 3), (18, .ifCond .ne 5, 3), (21, .iconst (-1), 1), (22, .ireturn, 1), (23, .aload_n 0, 1), (24, .aload_n 0, 1), (25, .getfield 65, 3), (28, .invokevirtual 284, 3), (31, .aload_n 0, 1), (32, .invokevirtual 278, 3), (35, .iconst 1, 1), (36, .istore_n 2, 1), (37, .iload_n 2, 1), (38, .sipush 600, 3), (41, .if_icmp .gt 25, 3)] := by unfold decs; decide +kernel
theorem dX12_hears_0 : decode cX12_hears 0 = .ok (.aload_n 0, 1) := decs_at DX12_hears_0 0 rfl
theorem dX12_hears_1 : decode cX12_hears 1 = .ok (.iconst 0, 1) := decs_at DX12_hears_0 1 rfl
theorem dX12_hears_2 : decode cX12_hears 2 = .ok (.putfield 106, 3) := decs_at DX12_hears_0 2 rfl
theorem dX12_hears_5 : decode cX12_hears 5 = .ok (.aload_n 0, 1) := decs_at DX12_hears_0 3 rfl
theorem dX12_hears_6 : decode cX12_hears 6 = .ok (.invokevirtual 198, 3) := decs_at DX12_hears_0 4 rfl
theorem dX12_hears_9 : decode cX12_hears 9 = .ok (.iload_n 1, 1) := decs_at DX12_hears_0 5 rfl
theorem dX12_hears_10 : decode cX12_hears 10 = .ok (.iconst 1, 1) := decs_at DX12_hears_0 6 rfl
theorem dX12_hears_11 : decode cX12_hears 11 = .ok (.aload_n 0, 1) := decs_at DX12_hears_0 7 rfl
theorem dX12_hears_12 : decode cX12_hears 12 = .ok (.getfield 16, 3) := decs_at DX12_hears_0 8 rfl
theorem dX12_hears_15 : decode cX12_hears 15 = .ok (.invokestatic 162, 3) := decs_at DX12_hears_0 9 rfl
theorem dX12_hears_18 : decode cX12_hears 18 = .ok (.ifCond .ne 5, 3) := decs_at DX12_hears_0 10 rfl
theorem dX12_hears_21 : decode cX12_hears 21 = .ok (.iconst (-1), 1) := decs_at DX12_hears_0 11 rfl
theorem dX12_hears_22 : decode cX12_hears 22 = .ok (.ireturn, 1) := decs_at DX12_hears_0 12 rfl
theorem dX12_hears_23 : decode cX12_hears 23 = .ok (.aload_n 0, 1) := decs_at DX12_hears_0 13 rfl
theorem dX12_hears_24 : decode cX12_hears 24 = .ok (.aload_n 0, 1) := decs_at DX12_hears_0 14 rfl
theorem dX12_hears_25 : decode cX12_hears 25 = .ok (.getfield 65, 3) := decs_at DX12_hears_0 15 rfl
theorem dX12_hears_28 : decode cX12_hears 28 = .ok (.invokevirtual 284, 3) := decs_at DX12_hears_0 16 rfl
theorem dX12_hears_31 : decode cX12_hears 31 = .ok (.aload_n 0, 1) := decs_at DX12_hears_0 17 rfl
theorem dX12_hears_32 : decode cX12_hears 32 = .ok (.invokevirtual 278, 3) := decs_at DX12_hears_0 18 rfl
theorem dX12_hears_35 : decode cX12_hears 35 = .ok (.iconst 1, 1) := decs_at DX12_hears_0 19 rfl
theorem dX12_hears_36 : decode cX12_hears 36 = .ok (.istore_n 2, 1) := decs_at DX12_hears_0 20 rfl
theorem dX12_hears_37 : decode cX12_hears 37 = .ok (.iload_n 2, 1) := decs_at DX12_hears_0 21 rfl
theorem dX12_hears_38 : decode cX12_hears 38 = .ok (.sipush 600, 3) := decs_at DX12_hears_0 22 rfl
theorem dX12_hears_41 : decode cX12_hears 41 = .ok (.if_icmp .gt 25, 3) := decs_at DX12_hears_0 23 rfl
theorem DX12_hears_24 : decs cX12_hears [(44, .aload_n 0, 1), (45, .iload_n 2, 1), (46, .invokevirtual 281, 3), (49, .aload_n 0, 1), (50, .getfield 59, 3), (53, .iload_n 1, 1), (54, .iaload, 1), (55, .ifCond .le 5, 3), (58, .iload_n 2, 1), (59, .ireturn, 1), (60, .iinc 2 1, 3), (63, .goto (-26), 3), (66, .iconst (-1), 1), (67, .ireturn, 1)] := by unfold decs; decide +kernel
theorem dX12_hears_44 : decode cX12_hears 44 = .ok (.aload_n 0, 1) := decs_at DX12_hears_24 0 rfl
theorem dX12_hears_45 : decode cX12_hears 45 = .ok (.iload_n 2, 1) := decs_at DX12_hears_24 1 rfl
theorem dX12_hears_46 : decode cX12_hears 46 = .ok (.invokevirtual 281, 3) := decs_at DX12_hears_24 2 rfl
theorem dX12_hears_49 : decode cX12_hears 49 = .ok (.aload_n 0, 1) := decs_at DX12_hears_24 3 rfl
theorem dX12_hears_50 : decode cX12_hears 50 = .ok (.getfield 59, 3) := decs_at DX12_hears_24 4 rfl
theorem dX12_hears_53 : decode cX12_hears 53 = .ok (.iload_n 1, 1) := decs_at DX12_hears_24 5 rfl
theorem dX12_hears_54 : decode cX12_hears 54 = .ok (.iaload, 1) := decs_at DX12_hears_24 6 rfl
theorem dX12_hears_55 : decode cX12_hears 55 = .ok (.ifCond .le 5, 3) := decs_at DX12_hears_24 7 rfl
theorem dX12_hears_58 : decode cX12_hears 58 = .ok (.iload_n 2, 1) := decs_at DX12_hears_24 8 rfl
theorem dX12_hears_59 : decode cX12_hears 59 = .ok (.ireturn, 1) := decs_at DX12_hears_24 9 rfl
theorem dX12_hears_60 : decode cX12_hears 60 = .ok (.iinc 2 1, 3) := decs_at DX12_hears_24 10 rfl
theorem dX12_hears_63 : decode cX12_hears 63 = .ok (.goto (-26), 3) := decs_at DX12_hears_24 11 rfl
theorem dX12_hears_66 : decode cX12_hears 66 = .ok (.iconst (-1), 1) := decs_at DX12_hears_24 12 rfl
theorem dX12_hears_67 : decode cX12_hears 67 = .ok (.ireturn, 1) := decs_at DX12_hears_24 13 rfl
theorem DX12_easy_0 : decs cX12_easy [(0, .aload_n 0, 1), (1, .iconst 0, 1), (2, .putfield 106, 3), (5, .aload_n 0, 1), (6, .aload_n 0, 1), (7, .getfield 65, 3), (10, .invokevirtual 284, 3), (13, .aload_n 0, 1), (14, .invokevirtual 278, 3), (17, .iconst 0, 1), (18, .istore_n 1, 1), (19, .iconst 1, 1), (20, .istore_n 2, 1), (21, .iload_n 2, 1), (22, .sipush 600, 3), (25, .if_icmp .gt 70, 3), (28, .aload_n 0, 1), (29, .iload_n 2, 1), (30, .invokevirtual 281, 3), (33, .iconst 0, 1), (34, .istore_n 3, 1), (35, .iconst 1, 1), (36, .istore 4, 2), (38, .iload 4, 2)] := by unfold decs; decide +kernel
theorem dX12_easy_0 : decode cX12_easy 0 = .ok (.aload_n 0, 1) := decs_at DX12_easy_0 0 rfl
theorem dX12_easy_1 : decode cX12_easy 1 = .ok (.iconst 0, 1) := decs_at DX12_easy_0 1 rfl
theorem dX12_easy_2 : decode cX12_easy 2 = .ok (.putfield 106, 3) := decs_at DX12_easy_0 2 rfl
theorem dX12_easy_5 : decode cX12_easy 5 = .ok (.aload_n 0, 1) := decs_at DX12_easy_0 3 rfl
theorem dX12_easy_6 : decode cX12_easy 6 = .ok (.aload_n 0, 1) := decs_at DX12_easy_0 4 rfl
theorem dX12_easy_7 : decode cX12_easy 7 = .ok (.getfield 65, 3) := decs_at DX12_easy_0 5 rfl
theorem dX12_easy_10 : decode cX12_easy 10 = .ok (.invokevirtual 284, 3) := decs_at DX12_easy_0 6 rfl
theorem dX12_easy_13 : decode cX12_easy 13 = .ok (.aload_n 0, 1) := decs_at DX12_easy_0 7 rfl
theorem dX12_easy_14 : decode cX12_easy 14 = .ok (.invokevirtual 278, 3) := decs_at DX12_easy_0 8 rfl
theorem dX12_easy_17 : decode cX12_easy 17 = .ok (.iconst 0, 1) := decs_at DX12_easy_0 9 rfl
theorem dX12_easy_18 : decode cX12_easy 18 = .ok (.istore_n 1, 1) := decs_at DX12_easy_0 10 rfl
theorem dX12_easy_19 : decode cX12_easy 19 = .ok (.iconst 1, 1) := decs_at DX12_easy_0 11 rfl
theorem dX12_easy_20 : decode cX12_easy 20 = .ok (.istore_n 2, 1) := decs_at DX12_easy_0 12 rfl
theorem dX12_easy_21 : decode cX12_easy 21 = .ok (.iload_n 2, 1) := decs_at DX12_easy_0 13 rfl
theorem dX12_easy_22 : decode cX12_easy 22 = .ok (.sipush 600, 3) := decs_at DX12_easy_0 14 rfl
theorem dX12_easy_25 : decode cX12_easy 25 = .ok (.if_icmp .gt 70, 3) := decs_at DX12_easy_0 15 rfl
theorem dX12_easy_28 : decode cX12_easy 28 = .ok (.aload_n 0, 1) := decs_at DX12_easy_0 16 rfl
theorem dX12_easy_29 : decode cX12_easy 29 = .ok (.iload_n 2, 1) := decs_at DX12_easy_0 17 rfl
theorem dX12_easy_30 : decode cX12_easy 30 = .ok (.invokevirtual 281, 3) := decs_at DX12_easy_0 18 rfl
theorem dX12_easy_33 : decode cX12_easy 33 = .ok (.iconst 0, 1) := decs_at DX12_easy_0 19 rfl
theorem dX12_easy_34 : decode cX12_easy 34 = .ok (.istore_n 3, 1) := decs_at DX12_easy_0 20 rfl
theorem dX12_easy_35 : decode cX12_easy 35 = .ok (.iconst 1, 1) := decs_at DX12_easy_0 21 rfl
theorem dX12_easy_36 : decode cX12_easy 36 = .ok (.istore 4, 2) := decs_at DX12_easy_0 22 rfl
theorem dX12_easy_38 : decode cX12_easy 38 = .ok (.iload 4, 2) := decs_at DX12_easy_0 23 rfl
theorem DX12_easy_24 : decs cX12_easy [(40, .aload_n 0, 1), (41, .getfield 16, 3), (44, .if_icmp .gt 21, 3), (47, .aload_n 0, 1), (48, .getfield 59, 3), (51, .iload 4, 2), (53, .iaload, 1), (54, .ifCond .le 5, 3), (57, .iconst 1, 1), (58, .istore_n 3, 1), (59, .iinc 4 1, 3), (62, .goto (-24), 3), (65, .iload_n 1, 1), (66, .ifCond .eq 9, 3), (69, .iload_n 3, 1), (70, .ifCond .ne 5, 3), (73, .iload_n 2, 1), (74, .ireturn, 1), (75, .iload_n 1, 1), (76, .ifCond .ne 7, 3), (79, .iload_n 3, 1), (80, .ifCond .eq 7, 3), (83, .iconst 1, 1), (84, .goto 4, 3)] := by unfold decs; decide +kernel
theorem dX12_easy_40 : decode cX12_easy 40 = .ok (.aload_n 0, 1) := decs_at DX12_easy_24 0 rfl
theorem dX12_easy_41 : decode cX12_easy 41 = .ok (.getfield 16, 3) := decs_at DX12_easy_24 1 rfl
theorem dX12_easy_44 : decode cX12_easy 44 = .ok (.if_icmp .gt 21, 3) := decs_at DX12_easy_24 2 rfl
theorem dX12_easy_47 : decode cX12_easy 47 = .ok (.aload_n 0, 1) := decs_at DX12_easy_24 3 rfl
theorem dX12_easy_48 : decode cX12_easy 48 = .ok (.getfield 59, 3) := decs_at DX12_easy_24 4 rfl
theorem dX12_easy_51 : decode cX12_easy 51 = .ok (.iload 4, 2) := decs_at DX12_easy_24 5 rfl
theorem dX12_easy_53 : decode cX12_easy 53 = .ok (.iaload, 1) := decs_at DX12_easy_24 6 rfl
theorem dX12_easy_54 : decode cX12_easy 54 = .ok (.ifCond .le 5, 3) := decs_at DX12_easy_24 7 rfl
theorem dX12_easy_57 : decode cX12_easy 57 = .ok (.iconst 1, 1) := decs_at DX12_easy_24 8 rfl
theorem dX12_easy_58 : decode cX12_easy 58 = .ok (.istore_n 3, 1) := decs_at DX12_easy_24 9 rfl
theorem dX12_easy_59 : decode cX12_easy 59 = .ok (.iinc 4 1, 3) := decs_at DX12_easy_24 10 rfl
theorem dX12_easy_62 : decode cX12_easy 62 = .ok (.goto (-24), 3) := decs_at DX12_easy_24 11 rfl
theorem dX12_easy_65 : decode cX12_easy 65 = .ok (.iload_n 1, 1) := decs_at DX12_easy_24 12 rfl
theorem dX12_easy_66 : decode cX12_easy 66 = .ok (.ifCond .eq 9, 3) := decs_at DX12_easy_24 13 rfl
theorem dX12_easy_69 : decode cX12_easy 69 = .ok (.iload_n 3, 1) := decs_at DX12_easy_24 14 rfl
theorem dX12_easy_70 : decode cX12_easy 70 = .ok (.ifCond .ne 5, 3) := decs_at DX12_easy_24 15 rfl
theorem dX12_easy_73 : decode cX12_easy 73 = .ok (.iload_n 2, 1) := decs_at DX12_easy_24 16 rfl
theorem dX12_easy_74 : decode cX12_easy 74 = .ok (.ireturn, 1) := decs_at DX12_easy_24 17 rfl
theorem dX12_easy_75 : decode cX12_easy 75 = .ok (.iload_n 1, 1) := decs_at DX12_easy_24 18 rfl
theorem dX12_easy_76 : decode cX12_easy 76 = .ok (.ifCond .ne 7, 3) := decs_at DX12_easy_24 19 rfl
theorem dX12_easy_79 : decode cX12_easy 79 = .ok (.iload_n 3, 1) := decs_at DX12_easy_24 20 rfl
theorem dX12_easy_80 : decode cX12_easy 80 = .ok (.ifCond .eq 7, 3) := decs_at DX12_easy_24 21 rfl
theorem dX12_easy_83 : decode cX12_easy 83 = .ok (.iconst 1, 1) := decs_at DX12_easy_24 22 rfl
theorem dX12_easy_84 : decode cX12_easy 84 = .ok (.goto 4, 3) := decs_at DX12_easy_24 23 rfl
theorem DX12_easy_48 : decs cX12_easy [(87, .iconst 0, 1), (88, .istore_n 1, 1), (89, .iinc 2 1, 3), (92, .goto (-71), 3), (95, .iconst (-1), 1), (96, .ireturn, 1)] := by unfold decs; decide +kernel
theorem dX12_easy_87 : decode cX12_easy 87 = .ok (.iconst 0, 1) := decs_at DX12_easy_48 0 rfl
theorem dX12_easy_88 : decode cX12_easy 88 = .ok (.istore_n 1, 1) := decs_at DX12_easy_48 1 rfl
theorem dX12_easy_89 : decode cX12_easy 89 = .ok (.iinc 2 1, 3) := decs_at DX12_easy_48 2 rfl
theorem dX12_easy_92 : decode cX12_easy 92 = .ok (.goto (-71), 3) := decs_at DX12_easy_48 3 rfl
theorem dX12_easy_95 : decode cX12_easy 95 = .ok (.iconst (-1), 1) := decs_at DX12_easy_48 4 rfl
theorem dX12_easy_96 : decode cX12_easy 96 = .ok (.ireturn, 1) := decs_at DX12_easy_48 5 rfl
theorem DX12_isRun_0 : decs cX12_isRun [(0, .iload_n 0, 1), (1, .bipush (-40), 2), (3, .bipush 40, 2), (5, .invokestatic 162, 3), (8, .ifCond .eq 28, 3), (11, .iload_n 1, 1), (12, .iconst 0, 1), (13, .sipush 3000, 3), (16, .invokestatic 162, 3), (19, .ifCond .eq 17, 3), (22, .iload_n 2, 1), (23, .iconst 0, 1), (24, .bipush 90, 2), (26, .invokestatic 162, 3), (29, .ifCond .eq 7, 3), (32, .iconst 1, 1), (33, .goto 4, 3), (36, .iconst 0, 1), (37, .ireturn, 1)] := by unfold decs; decide +kernel
theorem dX12_isRun_0 : decode cX12_isRun 0 = .ok (.iload_n 0, 1) := decs_at DX12_isRun_0 0 rfl
theorem dX12_isRun_1 : decode cX12_isRun 1 = .ok (.bipush (-40), 2) := decs_at DX12_isRun_0 1 rfl
theorem dX12_isRun_3 : decode cX12_isRun 3 = .ok (.bipush 40, 2) := decs_at DX12_isRun_0 2 rfl
theorem dX12_isRun_5 : decode cX12_isRun 5 = .ok (.invokestatic 162, 3) := decs_at DX12_isRun_0 3 rfl
theorem dX12_isRun_8 : decode cX12_isRun 8 = .ok (.ifCond .eq 28, 3) := decs_at DX12_isRun_0 4 rfl
theorem dX12_isRun_11 : decode cX12_isRun 11 = .ok (.iload_n 1, 1) := decs_at DX12_isRun_0 5 rfl
theorem dX12_isRun_12 : decode cX12_isRun 12 = .ok (.iconst 0, 1) := decs_at DX12_isRun_0 6 rfl
theorem dX12_isRun_13 : decode cX12_isRun 13 = .ok (.sipush 3000, 3) := decs_at DX12_isRun_0 7 rfl
theorem dX12_isRun_16 : decode cX12_isRun 16 = .ok (.invokestatic 162, 3) := decs_at DX12_isRun_0 8 rfl
theorem dX12_isRun_19 : decode cX12_isRun 19 = .ok (.ifCond .eq 17, 3) := decs_at DX12_isRun_0 9 rfl
theorem dX12_isRun_22 : decode cX12_isRun 22 = .ok (.iload_n 2, 1) := decs_at DX12_isRun_0 10 rfl
theorem dX12_isRun_23 : decode cX12_isRun 23 = .ok (.iconst 0, 1) := decs_at DX12_isRun_0 11 rfl
theorem dX12_isRun_24 : decode cX12_isRun 24 = .ok (.bipush 90, 2) := decs_at DX12_isRun_0 12 rfl
theorem dX12_isRun_26 : decode cX12_isRun 26 = .ok (.invokestatic 162, 3) := decs_at DX12_isRun_0 13 rfl
theorem dX12_isRun_29 : decode cX12_isRun 29 = .ok (.ifCond .eq 7, 3) := decs_at DX12_isRun_0 14 rfl
theorem dX12_isRun_32 : decode cX12_isRun 32 = .ok (.iconst 1, 1) := decs_at DX12_isRun_0 15 rfl
theorem dX12_isRun_33 : decode cX12_isRun 33 = .ok (.goto 4, 3) := decs_at DX12_isRun_0 16 rfl
theorem dX12_isRun_36 : decode cX12_isRun 36 = .ok (.iconst 0, 1) := decs_at DX12_isRun_0 17 rfl
theorem dX12_isRun_37 : decode cX12_isRun 37 = .ok (.ireturn, 1) := decs_at DX12_isRun_0 18 rfl
theorem DX12_span_0 : decs cX12_span [(0, .aload_n 0, 1), (1, .invokevirtual 278, 3), (4, .iload_n 2, 1), (5, .istore 4, 2), (7, .iconst 0, 1), (8, .istore 5, 2), (10, .aload_n 0, 1), (11, .iload_n 2, 1), (12, .putfield 290, 3), (15, .aload_n 0, 1), (16, .iconst 0, 1), (17, .putfield 293, 3), (20, .iload 4, 2), (22, .ifCond .le 136, 3), (25, .aload_n 0, 1), (26, .getfield 293, 3), (29, .sipush 600, 3), (32, .if_icmp .ge 126, 3), (35, .aload_n 0, 1), (36, .dup, 1), (37, .getfield 293, 3), (40, .iconst 1, 1), (41, .iadd, 1), (42, .putfield 293, 3)] := by unfold decs; decide +kernel
theorem dX12_span_0 : decode cX12_span 0 = .ok (.aload_n 0, 1) := decs_at DX12_span_0 0 rfl
theorem dX12_span_1 : decode cX12_span 1 = .ok (.invokevirtual 278, 3) := decs_at DX12_span_0 1 rfl
theorem dX12_span_4 : decode cX12_span 4 = .ok (.iload_n 2, 1) := decs_at DX12_span_0 2 rfl
theorem dX12_span_5 : decode cX12_span 5 = .ok (.istore 4, 2) := decs_at DX12_span_0 3 rfl
theorem dX12_span_7 : decode cX12_span 7 = .ok (.iconst 0, 1) := decs_at DX12_span_0 4 rfl
theorem dX12_span_8 : decode cX12_span 8 = .ok (.istore 5, 2) := decs_at DX12_span_0 5 rfl
theorem dX12_span_10 : decode cX12_span 10 = .ok (.aload_n 0, 1) := decs_at DX12_span_0 6 rfl
theorem dX12_span_11 : decode cX12_span 11 = .ok (.iload_n 2, 1) := decs_at DX12_span_0 7 rfl
theorem dX12_span_12 : decode cX12_span 12 = .ok (.putfield 290, 3) := decs_at DX12_span_0 8 rfl
theorem dX12_span_15 : decode cX12_span 15 = .ok (.aload_n 0, 1) := decs_at DX12_span_0 9 rfl
theorem dX12_span_16 : decode cX12_span 16 = .ok (.iconst 0, 1) := decs_at DX12_span_0 10 rfl
theorem dX12_span_17 : decode cX12_span 17 = .ok (.putfield 293, 3) := decs_at DX12_span_0 11 rfl
theorem dX12_span_20 : decode cX12_span 20 = .ok (.iload 4, 2) := decs_at DX12_span_0 12 rfl
theorem dX12_span_22 : decode cX12_span 22 = .ok (.ifCond .le 136, 3) := decs_at DX12_span_0 13 rfl
theorem dX12_span_25 : decode cX12_span 25 = .ok (.aload_n 0, 1) := decs_at DX12_span_0 14 rfl
theorem dX12_span_26 : decode cX12_span 26 = .ok (.getfield 293, 3) := decs_at DX12_span_0 15 rfl
theorem dX12_span_29 : decode cX12_span 29 = .ok (.sipush 600, 3) := decs_at DX12_span_0 16 rfl
theorem dX12_span_32 : decode cX12_span 32 = .ok (.if_icmp .ge 126, 3) := decs_at DX12_span_0 17 rfl
theorem dX12_span_35 : decode cX12_span 35 = .ok (.aload_n 0, 1) := decs_at DX12_span_0 18 rfl
theorem dX12_span_36 : decode cX12_span 36 = .ok (.dup, 1) := decs_at DX12_span_0 19 rfl
theorem dX12_span_37 : decode cX12_span 37 = .ok (.getfield 293, 3) := decs_at DX12_span_0 20 rfl
theorem dX12_span_40 : decode cX12_span 40 = .ok (.iconst 1, 1) := decs_at DX12_span_0 21 rfl
theorem dX12_span_41 : decode cX12_span 41 = .ok (.iadd, 1) := decs_at DX12_span_0 22 rfl
theorem dX12_span_42 : decode cX12_span 42 = .ok (.putfield 293, 3) := decs_at DX12_span_0 23 rfl
theorem DX12_span_24 : decs cX12_span [(45, .aload_n 0, 1), (46, .aload_n 0, 1), (47, .getfield 293, 3), (50, .invokevirtual 281, 3), (53, .iconst 0, 1), (54, .istore 6, 2), (56, .iconst 1, 1), (57, .istore 7, 2), (59, .iload 7, 2), (61, .aload_n 0, 1), (62, .getfield 16, 3), (65, .if_icmp .gt 39, 3), (68, .aload_n 0, 1), (69, .getfield 38, 3), (72, .iload 7, 2), (74, .iaload, 1), (75, .ifCond .ne 23, 3), (78, .iload 6, 2), (80, .aload_n 0, 1), (81, .getfield 59, 3), (84, .iload 7, 2), (86, .iaload, 1), (87, .bipush 100, 2), (89, .iload_n 3, 1)] := by unfold decs; decide +kernel
theorem dX12_span_45 : decode cX12_span 45 = .ok (.aload_n 0, 1) := decs_at DX12_span_24 0 rfl
theorem dX12_span_46 : decode cX12_span 46 = .ok (.aload_n 0, 1) := decs_at DX12_span_24 1 rfl
theorem dX12_span_47 : decode cX12_span 47 = .ok (.getfield 293, 3) := decs_at DX12_span_24 2 rfl
theorem dX12_span_50 : decode cX12_span 50 = .ok (.invokevirtual 281, 3) := decs_at DX12_span_24 3 rfl
theorem dX12_span_53 : decode cX12_span 53 = .ok (.iconst 0, 1) := decs_at DX12_span_24 4 rfl
theorem dX12_span_54 : decode cX12_span 54 = .ok (.istore 6, 2) := decs_at DX12_span_24 5 rfl
theorem dX12_span_56 : decode cX12_span 56 = .ok (.iconst 1, 1) := decs_at DX12_span_24 6 rfl
theorem dX12_span_57 : decode cX12_span 57 = .ok (.istore 7, 2) := decs_at DX12_span_24 7 rfl
theorem dX12_span_59 : decode cX12_span 59 = .ok (.iload 7, 2) := decs_at DX12_span_24 8 rfl
theorem dX12_span_61 : decode cX12_span 61 = .ok (.aload_n 0, 1) := decs_at DX12_span_24 9 rfl
theorem dX12_span_62 : decode cX12_span 62 = .ok (.getfield 16, 3) := decs_at DX12_span_24 10 rfl
theorem dX12_span_65 : decode cX12_span 65 = .ok (.if_icmp .gt 39, 3) := decs_at DX12_span_24 11 rfl
theorem dX12_span_68 : decode cX12_span 68 = .ok (.aload_n 0, 1) := decs_at DX12_span_24 12 rfl
theorem dX12_span_69 : decode cX12_span 69 = .ok (.getfield 38, 3) := decs_at DX12_span_24 13 rfl
theorem dX12_span_72 : decode cX12_span 72 = .ok (.iload 7, 2) := decs_at DX12_span_24 14 rfl
theorem dX12_span_74 : decode cX12_span 74 = .ok (.iaload, 1) := decs_at DX12_span_24 15 rfl
theorem dX12_span_75 : decode cX12_span 75 = .ok (.ifCond .ne 23, 3) := decs_at DX12_span_24 16 rfl
theorem dX12_span_78 : decode cX12_span 78 = .ok (.iload 6, 2) := decs_at DX12_span_24 17 rfl
theorem dX12_span_80 : decode cX12_span 80 = .ok (.aload_n 0, 1) := decs_at DX12_span_24 18 rfl
theorem dX12_span_81 : decode cX12_span 81 = .ok (.getfield 59, 3) := decs_at DX12_span_24 19 rfl
theorem dX12_span_84 : decode cX12_span 84 = .ok (.iload 7, 2) := decs_at DX12_span_24 20 rfl
theorem dX12_span_86 : decode cX12_span 86 = .ok (.iaload, 1) := decs_at DX12_span_24 21 rfl
theorem dX12_span_87 : decode cX12_span 87 = .ok (.bipush 100, 2) := decs_at DX12_span_24 22 rfl
theorem dX12_span_89 : decode cX12_span 89 = .ok (.iload_n 3, 1) := decs_at DX12_span_24 23 rfl
theorem DX12_span_48 : decs cX12_span [(90, .isub, 1), (91, .imul, 1), (92, .bipush 100, 2), (94, .idiv, 1), (95, .iadd, 1), (96, .istore 6, 2), (98, .iinc 7 1, 3), (101, .goto (-42), 3), (104, .iload 4, 2), (106, .aload_n 0, 1), (107, .getfield 247, 3), (110, .iload_n 1, 1), (111, .imul, 1), (112, .iconst 4, 1), (113, .iload 6, 2), (115, .imul, 1), (116, .isub, 1), (117, .aload_n 0, 1), (118, .getfield 247, 3), (121, .idiv, 1), (122, .iadd, 1), (123, .istore 4, 2), (125, .iload 4, 2), (127, .ifCond .ge 6, 3)] := by unfold decs; decide +kernel
theorem dX12_span_90 : decode cX12_span 90 = .ok (.isub, 1) := decs_at DX12_span_48 0 rfl
theorem dX12_span_91 : decode cX12_span 91 = .ok (.imul, 1) := decs_at DX12_span_48 1 rfl
theorem dX12_span_92 : decode cX12_span 92 = .ok (.bipush 100, 2) := decs_at DX12_span_48 2 rfl
theorem dX12_span_94 : decode cX12_span 94 = .ok (.idiv, 1) := decs_at DX12_span_48 3 rfl
theorem dX12_span_95 : decode cX12_span 95 = .ok (.iadd, 1) := decs_at DX12_span_48 4 rfl
theorem dX12_span_96 : decode cX12_span 96 = .ok (.istore 6, 2) := decs_at DX12_span_48 5 rfl
theorem dX12_span_98 : decode cX12_span 98 = .ok (.iinc 7 1, 3) := decs_at DX12_span_48 6 rfl
theorem dX12_span_101 : decode cX12_span 101 = .ok (.goto (-42), 3) := decs_at DX12_span_48 7 rfl
theorem dX12_span_104 : decode cX12_span 104 = .ok (.iload 4, 2) := decs_at DX12_span_48 8 rfl
theorem dX12_span_106 : decode cX12_span 106 = .ok (.aload_n 0, 1) := decs_at DX12_span_48 9 rfl
theorem dX12_span_107 : decode cX12_span 107 = .ok (.getfield 247, 3) := decs_at DX12_span_48 10 rfl
theorem dX12_span_110 : decode cX12_span 110 = .ok (.iload_n 1, 1) := decs_at DX12_span_48 11 rfl
theorem dX12_span_111 : decode cX12_span 111 = .ok (.imul, 1) := decs_at DX12_span_48 12 rfl
theorem dX12_span_112 : decode cX12_span 112 = .ok (.iconst 4, 1) := decs_at DX12_span_48 13 rfl
theorem dX12_span_113 : decode cX12_span 113 = .ok (.iload 6, 2) := decs_at DX12_span_48 14 rfl
theorem dX12_span_115 : decode cX12_span 115 = .ok (.imul, 1) := decs_at DX12_span_48 15 rfl
theorem dX12_span_116 : decode cX12_span 116 = .ok (.isub, 1) := decs_at DX12_span_48 16 rfl
theorem dX12_span_117 : decode cX12_span 117 = .ok (.aload_n 0, 1) := decs_at DX12_span_48 17 rfl
theorem dX12_span_118 : decode cX12_span 118 = .ok (.getfield 247, 3) := decs_at DX12_span_48 18 rfl
theorem dX12_span_121 : decode cX12_span 121 = .ok (.idiv, 1) := decs_at DX12_span_48 19 rfl
theorem dX12_span_122 : decode cX12_span 122 = .ok (.iadd, 1) := decs_at DX12_span_48 20 rfl
theorem dX12_span_123 : decode cX12_span 123 = .ok (.istore 4, 2) := decs_at DX12_span_48 21 rfl
theorem dX12_span_125 : decode cX12_span 125 = .ok (.iload 4, 2) := decs_at DX12_span_48 22 rfl
theorem dX12_span_127 : decode cX12_span 127 = .ok (.ifCond .ge 6, 3) := decs_at DX12_span_48 23 rfl
theorem DX12_span_72 : decs cX12_span [(130, .iconst 0, 1), (131, .istore 4, 2), (133, .iload 5, 2), (135, .iload 4, 2), (137, .iadd, 1), (138, .istore 5, 2), (140, .iload 4, 2), (142, .aload_n 0, 1), (143, .getfield 290, 3), (146, .if_icmp .le 9, 3), (149, .aload_n 0, 1), (150, .iload 4, 2), (152, .putfield 290, 3), (155, .goto (-135), 3), (158, .aload_n 0, 1), (159, .iload 4, 2), (161, .putfield 296, 3), (164, .iload 4, 2), (166, .ifCond .ne 8, 3), (169, .iload 5, 2), (171, .goto 4, 3), (174, .iconst (-1), 1), (175, .ireturn, 1)] := by unfold decs; decide +kernel
theorem dX12_span_130 : decode cX12_span 130 = .ok (.iconst 0, 1) := decs_at DX12_span_72 0 rfl
theorem dX12_span_131 : decode cX12_span 131 = .ok (.istore 4, 2) := decs_at DX12_span_72 1 rfl
theorem dX12_span_133 : decode cX12_span 133 = .ok (.iload 5, 2) := decs_at DX12_span_72 2 rfl
theorem dX12_span_135 : decode cX12_span 135 = .ok (.iload 4, 2) := decs_at DX12_span_72 3 rfl
theorem dX12_span_137 : decode cX12_span 137 = .ok (.iadd, 1) := decs_at DX12_span_72 4 rfl
theorem dX12_span_138 : decode cX12_span 138 = .ok (.istore 5, 2) := decs_at DX12_span_72 5 rfl
theorem dX12_span_140 : decode cX12_span 140 = .ok (.iload 4, 2) := decs_at DX12_span_72 6 rfl
theorem dX12_span_142 : decode cX12_span 142 = .ok (.aload_n 0, 1) := decs_at DX12_span_72 7 rfl
theorem dX12_span_143 : decode cX12_span 143 = .ok (.getfield 290, 3) := decs_at DX12_span_72 8 rfl
theorem dX12_span_146 : decode cX12_span 146 = .ok (.if_icmp .le 9, 3) := decs_at DX12_span_72 9 rfl
theorem dX12_span_149 : decode cX12_span 149 = .ok (.aload_n 0, 1) := decs_at DX12_span_72 10 rfl
theorem dX12_span_150 : decode cX12_span 150 = .ok (.iload 4, 2) := decs_at DX12_span_72 11 rfl
theorem dX12_span_152 : decode cX12_span 152 = .ok (.putfield 290, 3) := decs_at DX12_span_72 12 rfl
theorem dX12_span_155 : decode cX12_span 155 = .ok (.goto (-135), 3) := decs_at DX12_span_72 13 rfl
theorem dX12_span_158 : decode cX12_span 158 = .ok (.aload_n 0, 1) := decs_at DX12_span_72 14 rfl
theorem dX12_span_159 : decode cX12_span 159 = .ok (.iload 4, 2) := decs_at DX12_span_72 15 rfl
theorem dX12_span_161 : decode cX12_span 161 = .ok (.putfield 296, 3) := decs_at DX12_span_72 16 rfl
theorem dX12_span_164 : decode cX12_span 164 = .ok (.iload 4, 2) := decs_at DX12_span_72 17 rfl
theorem dX12_span_166 : decode cX12_span 166 = .ok (.ifCond .ne 8, 3) := decs_at DX12_span_72 18 rfl
theorem dX12_span_169 : decode cX12_span 169 = .ok (.iload 5, 2) := decs_at DX12_span_72 19 rfl
theorem dX12_span_171 : decode cX12_span 171 = .ok (.goto 4, 3) := decs_at DX12_span_72 20 rfl
theorem dX12_span_174 : decode cX12_span 174 = .ok (.iconst (-1), 1) := decs_at DX12_span_72 21 rfl
theorem dX12_span_175 : decode cX12_span 175 = .ok (.ireturn, 1) := decs_at DX12_span_72 22 rfl
theorem DX12_run_0 : decs cX12_run [(0, .aload_n 0, 1), (1, .iconst 0, 1), (2, .putfield 106, 3), (5, .iload_n 1, 1), (6, .iload_n 2, 1), (7, .iload_n 3, 1), (8, .invokestatic 299, 3), (11, .ifCond .ne 6, 3), (14, .bipush (-2), 2), (16, .ireturn, 1), (17, .aload_n 0, 1), (18, .aload_n 0, 1), (19, .getfield 65, 3), (22, .invokevirtual 284, 3), (25, .aload_n 0, 1), (26, .iload_n 1, 1), (27, .iload_n 2, 1), (28, .iload_n 3, 1), (29, .invokevirtual 302, 3), (32, .istore 4, 2), (34, .aload_n 0, 1), (35, .iconst 1, 1), (36, .putfield 306, 3), (39, .aload_n 0, 1)] := by unfold decs; decide +kernel
theorem dX12_run_0 : decode cX12_run 0 = .ok (.aload_n 0, 1) := decs_at DX12_run_0 0 rfl
theorem dX12_run_1 : decode cX12_run 1 = .ok (.iconst 0, 1) := decs_at DX12_run_0 1 rfl
theorem dX12_run_2 : decode cX12_run 2 = .ok (.putfield 106, 3) := decs_at DX12_run_0 2 rfl
theorem dX12_run_5 : decode cX12_run 5 = .ok (.iload_n 1, 1) := decs_at DX12_run_0 3 rfl
theorem dX12_run_6 : decode cX12_run 6 = .ok (.iload_n 2, 1) := decs_at DX12_run_0 4 rfl
theorem dX12_run_7 : decode cX12_run 7 = .ok (.iload_n 3, 1) := decs_at DX12_run_0 5 rfl
theorem dX12_run_8 : decode cX12_run 8 = .ok (.invokestatic 299, 3) := decs_at DX12_run_0 6 rfl
theorem dX12_run_11 : decode cX12_run 11 = .ok (.ifCond .ne 6, 3) := decs_at DX12_run_0 7 rfl
theorem dX12_run_14 : decode cX12_run 14 = .ok (.bipush (-2), 2) := decs_at DX12_run_0 8 rfl
theorem dX12_run_16 : decode cX12_run 16 = .ok (.ireturn, 1) := decs_at DX12_run_0 9 rfl
theorem dX12_run_17 : decode cX12_run 17 = .ok (.aload_n 0, 1) := decs_at DX12_run_0 10 rfl
theorem dX12_run_18 : decode cX12_run 18 = .ok (.aload_n 0, 1) := decs_at DX12_run_0 11 rfl
theorem dX12_run_19 : decode cX12_run 19 = .ok (.getfield 65, 3) := decs_at DX12_run_0 12 rfl
theorem dX12_run_22 : decode cX12_run 22 = .ok (.invokevirtual 284, 3) := decs_at DX12_run_0 13 rfl
theorem dX12_run_25 : decode cX12_run 25 = .ok (.aload_n 0, 1) := decs_at DX12_run_0 14 rfl
theorem dX12_run_26 : decode cX12_run 26 = .ok (.iload_n 1, 1) := decs_at DX12_run_0 15 rfl
theorem dX12_run_27 : decode cX12_run 27 = .ok (.iload_n 2, 1) := decs_at DX12_run_0 16 rfl
theorem dX12_run_28 : decode cX12_run 28 = .ok (.iload_n 3, 1) := decs_at DX12_run_0 17 rfl
theorem dX12_run_29 : decode cX12_run 29 = .ok (.invokevirtual 302, 3) := decs_at DX12_run_0 18 rfl
theorem dX12_run_32 : decode cX12_run 32 = .ok (.istore 4, 2) := decs_at DX12_run_0 19 rfl
theorem dX12_run_34 : decode cX12_run 34 = .ok (.aload_n 0, 1) := decs_at DX12_run_0 20 rfl
theorem dX12_run_35 : decode cX12_run 35 = .ok (.iconst 1, 1) := decs_at DX12_run_0 21 rfl
theorem dX12_run_36 : decode cX12_run 36 = .ok (.putfield 306, 3) := decs_at DX12_run_0 22 rfl
theorem dX12_run_39 : decode cX12_run 39 = .ok (.aload_n 0, 1) := decs_at DX12_run_0 23 rfl
theorem DX12_run_24 : decs cX12_run [(40, .aload_n 0, 1), (41, .getfield 293, 3), (44, .putfield 309, 3), (47, .aload_n 0, 1), (48, .aload_n 0, 1), (49, .getfield 290, 3), (52, .putfield 312, 3), (55, .aload_n 0, 1), (56, .aload_n 0, 1), (57, .getfield 296, 3), (60, .putfield 315, 3), (63, .iload 4, 2), (65, .ireturn, 1)] := by unfold decs; decide +kernel
theorem dX12_run_40 : decode cX12_run 40 = .ok (.aload_n 0, 1) := decs_at DX12_run_24 0 rfl
theorem dX12_run_41 : decode cX12_run 41 = .ok (.getfield 293, 3) := decs_at DX12_run_24 1 rfl
theorem dX12_run_44 : decode cX12_run 44 = .ok (.putfield 309, 3) := decs_at DX12_run_24 2 rfl
theorem dX12_run_47 : decode cX12_run 47 = .ok (.aload_n 0, 1) := decs_at DX12_run_24 3 rfl
theorem dX12_run_48 : decode cX12_run 48 = .ok (.aload_n 0, 1) := decs_at DX12_run_24 4 rfl
theorem dX12_run_49 : decode cX12_run 49 = .ok (.getfield 290, 3) := decs_at DX12_run_24 5 rfl
theorem dX12_run_52 : decode cX12_run 52 = .ok (.putfield 312, 3) := decs_at DX12_run_24 6 rfl
theorem dX12_run_55 : decode cX12_run 55 = .ok (.aload_n 0, 1) := decs_at DX12_run_24 7 rfl
theorem dX12_run_56 : decode cX12_run 56 = .ok (.aload_n 0, 1) := decs_at DX12_run_24 8 rfl
theorem dX12_run_57 : decode cX12_run 57 = .ok (.getfield 296, 3) := decs_at DX12_run_24 9 rfl
theorem dX12_run_60 : decode cX12_run 60 = .ok (.putfield 315, 3) := decs_at DX12_run_24 10 rfl
theorem dX12_run_63 : decode cX12_run 63 = .ok (.iload 4, 2) := decs_at DX12_run_24 11 rfl
theorem dX12_run_65 : decode cX12_run 65 = .ok (.ireturn, 1) := decs_at DX12_run_24 12 rfl
theorem DX12_ran_0 : decs cX12_ran [(0, .aload_n 0, 1), (1, .iconst 0, 1), (2, .putfield 106, 3), (5, .aload_n 0, 1), (6, .getfield 306, 3), (9, .ifCond .ne 5, 3), (12, .iconst (-1), 1), (13, .ireturn, 1), (14, .iload_n 1, 1), (15, .ifCond .ne 10, 3), (18, .aload_n 0, 1), (19, .getfield 309, 3), (22, .goto 28, 3), (25, .iload_n 1, 1), (26, .iconst 1, 1), (27, .if_icmp .ne 10, 3), (30, .aload_n 0, 1), (31, .getfield 312, 3), (34, .goto 16, 3), (37, .iload_n 1, 1), (38, .iconst 2, 1), (39, .if_icmp .ne 10, 3), (42, .aload_n 0, 1), (43, .getfield 315, 3)] := by unfold decs; decide +kernel
theorem dX12_ran_0 : decode cX12_ran 0 = .ok (.aload_n 0, 1) := decs_at DX12_ran_0 0 rfl
theorem dX12_ran_1 : decode cX12_ran 1 = .ok (.iconst 0, 1) := decs_at DX12_ran_0 1 rfl
theorem dX12_ran_2 : decode cX12_ran 2 = .ok (.putfield 106, 3) := decs_at DX12_ran_0 2 rfl
theorem dX12_ran_5 : decode cX12_ran 5 = .ok (.aload_n 0, 1) := decs_at DX12_ran_0 3 rfl
theorem dX12_ran_6 : decode cX12_ran 6 = .ok (.getfield 306, 3) := decs_at DX12_ran_0 4 rfl
theorem dX12_ran_9 : decode cX12_ran 9 = .ok (.ifCond .ne 5, 3) := decs_at DX12_ran_0 5 rfl
theorem dX12_ran_12 : decode cX12_ran 12 = .ok (.iconst (-1), 1) := decs_at DX12_ran_0 6 rfl
theorem dX12_ran_13 : decode cX12_ran 13 = .ok (.ireturn, 1) := decs_at DX12_ran_0 7 rfl
theorem dX12_ran_14 : decode cX12_ran 14 = .ok (.iload_n 1, 1) := decs_at DX12_ran_0 8 rfl
theorem dX12_ran_15 : decode cX12_ran 15 = .ok (.ifCond .ne 10, 3) := decs_at DX12_ran_0 9 rfl
theorem dX12_ran_18 : decode cX12_ran 18 = .ok (.aload_n 0, 1) := decs_at DX12_ran_0 10 rfl
theorem dX12_ran_19 : decode cX12_ran 19 = .ok (.getfield 309, 3) := decs_at DX12_ran_0 11 rfl
theorem dX12_ran_22 : decode cX12_ran 22 = .ok (.goto 28, 3) := decs_at DX12_ran_0 12 rfl
theorem dX12_ran_25 : decode cX12_ran 25 = .ok (.iload_n 1, 1) := decs_at DX12_ran_0 13 rfl
theorem dX12_ran_26 : decode cX12_ran 26 = .ok (.iconst 1, 1) := decs_at DX12_ran_0 14 rfl
theorem dX12_ran_27 : decode cX12_ran 27 = .ok (.if_icmp .ne 10, 3) := decs_at DX12_ran_0 15 rfl
theorem dX12_ran_30 : decode cX12_ran 30 = .ok (.aload_n 0, 1) := decs_at DX12_ran_0 16 rfl
theorem dX12_ran_31 : decode cX12_ran 31 = .ok (.getfield 312, 3) := decs_at DX12_ran_0 17 rfl
theorem dX12_ran_34 : decode cX12_ran 34 = .ok (.goto 16, 3) := decs_at DX12_ran_0 18 rfl
theorem dX12_ran_37 : decode cX12_ran 37 = .ok (.iload_n 1, 1) := decs_at DX12_ran_0 19 rfl
theorem dX12_ran_38 : decode cX12_ran 38 = .ok (.iconst 2, 1) := decs_at DX12_ran_0 20 rfl
theorem dX12_ran_39 : decode cX12_ran 39 = .ok (.if_icmp .ne 10, 3) := decs_at DX12_ran_0 21 rfl
theorem dX12_ran_42 : decode cX12_ran 42 = .ok (.aload_n 0, 1) := decs_at DX12_ran_0 22 rfl
theorem dX12_ran_43 : decode cX12_ran 43 = .ok (.getfield 315, 3) := decs_at DX12_ran_0 23 rfl
theorem DX12_ran_24 : decs cX12_ran [(46, .goto 4, 3), (49, .iconst (-1), 1), (50, .ireturn, 1)] := by unfold decs; decide +kernel
theorem dX12_ran_46 : decode cX12_ran 46 = .ok (.goto 4, 3) := decs_at DX12_ran_24 0 rfl
theorem dX12_ran_49 : decode cX12_ran 49 = .ok (.iconst (-1), 1) := decs_at DX12_ran_24 1 rfl
theorem dX12_ran_50 : decode cX12_ran 50 = .ok (.ireturn, 1) := decs_at DX12_ran_24 2 rfl
theorem DX12_isWithin_0 : decs cX12_isWithin [(0, .iload_n 0, 1), (1, .iconst (-1), 1), (2, .if_icmp .eq 12, 3), (5, .iload_n 0, 1), (6, .iload_n 1, 1), (7, .if_icmp .gt 7, 3), (10, .iconst 1, 1), (11, .goto 4, 3), (14, .iconst 0, 1), (15, .ireturn, 1)] := by unfold decs; decide +kernel
theorem dX12_isWithin_0 : decode cX12_isWithin 0 = .ok (.iload_n 0, 1) := decs_at DX12_isWithin_0 0 rfl
theorem dX12_isWithin_1 : decode cX12_isWithin 1 = .ok (.iconst (-1), 1) := decs_at DX12_isWithin_0 1 rfl
theorem dX12_isWithin_2 : decode cX12_isWithin 2 = .ok (.if_icmp .eq 12, 3) := decs_at DX12_isWithin_0 2 rfl
theorem dX12_isWithin_5 : decode cX12_isWithin 5 = .ok (.iload_n 0, 1) := decs_at DX12_isWithin_0 3 rfl
theorem dX12_isWithin_6 : decode cX12_isWithin 6 = .ok (.iload_n 1, 1) := decs_at DX12_isWithin_0 4 rfl
theorem dX12_isWithin_7 : decode cX12_isWithin 7 = .ok (.if_icmp .gt 7, 3) := decs_at DX12_isWithin_0 5 rfl
theorem dX12_isWithin_10 : decode cX12_isWithin 10 = .ok (.iconst 1, 1) := decs_at DX12_isWithin_0 6 rfl
theorem dX12_isWithin_11 : decode cX12_isWithin 11 = .ok (.goto 4, 3) := decs_at DX12_isWithin_0 7 rfl
theorem dX12_isWithin_14 : decode cX12_isWithin 14 = .ok (.iconst 0, 1) := decs_at DX12_isWithin_0 8 rfl
theorem dX12_isWithin_15 : decode cX12_isWithin 15 = .ok (.ireturn, 1) := decs_at DX12_isWithin_0 9 rfl
theorem DX12_help_0 : decs cX12_help [(0, .aload_n 0, 1), (1, .iconst 0, 1), (2, .putfield 106, 3), (5, .iload_n 1, 1), (6, .iload_n 2, 1), (7, .iload_n 3, 1), (8, .invokestatic 299, 3), (11, .ifCond .eq 8, 3), (14, .iload 4, 2), (16, .ifCond .ge 6, 3), (19, .bipush (-2), 2), (21, .ireturn, 1), (22, .aload_n 0, 1), (23, .aload_n 0, 1), (24, .getfield 65, 3), (27, .invokevirtual 284, 3), (30, .sipush 400, 3), (33, .istore 5, 2), (35, .iload 5, 2), (37, .ifCond .lt 35, 3), (40, .aload_n 0, 1), (41, .iload 5, 2), (43, .iconst 1, 1), (44, .iadd, 1)] := by unfold decs; decide +kernel
theorem dX12_help_0 : decode cX12_help 0 = .ok (.aload_n 0, 1) := decs_at DX12_help_0 0 rfl
theorem dX12_help_1 : decode cX12_help 1 = .ok (.iconst 0, 1) := decs_at DX12_help_0 1 rfl
theorem dX12_help_2 : decode cX12_help 2 = .ok (.putfield 106, 3) := decs_at DX12_help_0 2 rfl
theorem dX12_help_5 : decode cX12_help 5 = .ok (.iload_n 1, 1) := decs_at DX12_help_0 3 rfl
theorem dX12_help_6 : decode cX12_help 6 = .ok (.iload_n 2, 1) := decs_at DX12_help_0 4 rfl
theorem dX12_help_7 : decode cX12_help 7 = .ok (.iload_n 3, 1) := decs_at DX12_help_0 5 rfl
theorem dX12_help_8 : decode cX12_help 8 = .ok (.invokestatic 299, 3) := decs_at DX12_help_0 6 rfl
theorem dX12_help_11 : decode cX12_help 11 = .ok (.ifCond .eq 8, 3) := decs_at DX12_help_0 7 rfl
theorem dX12_help_14 : decode cX12_help 14 = .ok (.iload 4, 2) := decs_at DX12_help_0 8 rfl
theorem dX12_help_16 : decode cX12_help 16 = .ok (.ifCond .ge 6, 3) := decs_at DX12_help_0 9 rfl
theorem dX12_help_19 : decode cX12_help 19 = .ok (.bipush (-2), 2) := decs_at DX12_help_0 10 rfl
theorem dX12_help_21 : decode cX12_help 21 = .ok (.ireturn, 1) := decs_at DX12_help_0 11 rfl
theorem dX12_help_22 : decode cX12_help 22 = .ok (.aload_n 0, 1) := decs_at DX12_help_0 12 rfl
theorem dX12_help_23 : decode cX12_help 23 = .ok (.aload_n 0, 1) := decs_at DX12_help_0 13 rfl
theorem dX12_help_24 : decode cX12_help 24 = .ok (.getfield 65, 3) := decs_at DX12_help_0 14 rfl
theorem dX12_help_27 : decode cX12_help 27 = .ok (.invokevirtual 284, 3) := decs_at DX12_help_0 15 rfl
theorem dX12_help_30 : decode cX12_help 30 = .ok (.sipush 400, 3) := decs_at DX12_help_0 16 rfl
theorem dX12_help_33 : decode cX12_help 33 = .ok (.istore 5, 2) := decs_at DX12_help_0 17 rfl
theorem dX12_help_35 : decode cX12_help 35 = .ok (.iload 5, 2) := decs_at DX12_help_0 18 rfl
theorem dX12_help_37 : decode cX12_help 37 = .ok (.ifCond .lt 35, 3) := decs_at DX12_help_0 19 rfl
theorem dX12_help_40 : decode cX12_help 40 = .ok (.aload_n 0, 1) := decs_at DX12_help_0 20 rfl
theorem dX12_help_41 : decode cX12_help 41 = .ok (.iload 5, 2) := decs_at DX12_help_0 21 rfl
theorem dX12_help_43 : decode cX12_help 43 = .ok (.iconst 1, 1) := decs_at DX12_help_0 22 rfl
theorem dX12_help_44 : decode cX12_help 44 = .ok (.iadd, 1) := decs_at DX12_help_0 23 rfl
theorem DX12_help_24 : decs cX12_help [(45, .putfield 250, 3), (48, .aload_n 0, 1), (49, .iload_n 1, 1), (50, .iload_n 2, 1), (51, .iload_n 3, 1), (52, .invokevirtual 302, 3), (55, .iload 4, 2), (57, .invokestatic 318, 3), (60, .ifCond .eq 6, 3), (63, .iload 5, 2), (65, .ireturn, 1), (66, .iinc 5 (-1), 3), (69, .goto (-34), 3), (72, .iconst (-1), 1), (73, .ireturn, 1)] := by unfold decs; decide +kernel
theorem dX12_help_45 : decode cX12_help 45 = .ok (.putfield 250, 3) := decs_at DX12_help_24 0 rfl
theorem dX12_help_48 : decode cX12_help 48 = .ok (.aload_n 0, 1) := decs_at DX12_help_24 1 rfl
theorem dX12_help_49 : decode cX12_help 49 = .ok (.iload_n 1, 1) := decs_at DX12_help_24 2 rfl
theorem dX12_help_50 : decode cX12_help 50 = .ok (.iload_n 2, 1) := decs_at DX12_help_24 3 rfl
theorem dX12_help_51 : decode cX12_help 51 = .ok (.iload_n 3, 1) := decs_at DX12_help_24 4 rfl
theorem dX12_help_52 : decode cX12_help 52 = .ok (.invokevirtual 302, 3) := decs_at DX12_help_24 5 rfl
theorem dX12_help_55 : decode cX12_help 55 = .ok (.iload 4, 2) := decs_at DX12_help_24 6 rfl
theorem dX12_help_57 : decode cX12_help 57 = .ok (.invokestatic 318, 3) := decs_at DX12_help_24 7 rfl
theorem dX12_help_60 : decode cX12_help 60 = .ok (.ifCond .eq 6, 3) := decs_at DX12_help_24 8 rfl
theorem dX12_help_63 : decode cX12_help 63 = .ok (.iload 5, 2) := decs_at DX12_help_24 9 rfl
theorem dX12_help_65 : decode cX12_help 65 = .ok (.ireturn, 1) := decs_at DX12_help_24 10 rfl
theorem dX12_help_66 : decode cX12_help 66 = .ok (.iinc 5 (-1), 3) := decs_at DX12_help_24 11 rfl
theorem dX12_help_69 : decode cX12_help 69 = .ok (.goto (-34), 3) := decs_at DX12_help_24 12 rfl
theorem dX12_help_72 : decode cX12_help 72 = .ok (.iconst (-1), 1) := decs_at DX12_help_24 13 rfl
theorem dX12_help_73 : decode cX12_help 73 = .ok (.ireturn, 1) := decs_at DX12_help_24 14 rfl
theorem DX12_parted_0 : decs cX12_parted [(0, .aload_n 0, 1), (1, .iconst 0, 1), (2, .putfield 106, 3), (5, .aload_n 0, 1), (6, .invokevirtual 198, 3), (9, .iload_n 1, 1), (10, .iconst 1, 1), (11, .aload_n 0, 1), (12, .getfield 16, 3), (15, .iconst 1, 1), (16, .isub, 1), (17, .invokestatic 162, 3), (20, .ifCond .eq 25, 3), (23, .iload_n 2, 1), (24, .iconst 1, 1), (25, .sipush 600, 3), (28, .invokestatic 162, 3), (31, .ifCond .eq 14, 3), (34, .iload_n 3, 1), (35, .iload 4, 2), (37, .iload 5, 2), (39, .invokestatic 299, 3), (42, .ifCond .ne 6, 3), (45, .bipush (-2), 2)] := by unfold decs; decide +kernel
theorem dX12_parted_0 : decode cX12_parted 0 = .ok (.aload_n 0, 1) := decs_at DX12_parted_0 0 rfl
theorem dX12_parted_1 : decode cX12_parted 1 = .ok (.iconst 0, 1) := decs_at DX12_parted_0 1 rfl
theorem dX12_parted_2 : decode cX12_parted 2 = .ok (.putfield 106, 3) := decs_at DX12_parted_0 2 rfl
theorem dX12_parted_5 : decode cX12_parted 5 = .ok (.aload_n 0, 1) := decs_at DX12_parted_0 3 rfl
theorem dX12_parted_6 : decode cX12_parted 6 = .ok (.invokevirtual 198, 3) := decs_at DX12_parted_0 4 rfl
theorem dX12_parted_9 : decode cX12_parted 9 = .ok (.iload_n 1, 1) := decs_at DX12_parted_0 5 rfl
theorem dX12_parted_10 : decode cX12_parted 10 = .ok (.iconst 1, 1) := decs_at DX12_parted_0 6 rfl
theorem dX12_parted_11 : decode cX12_parted 11 = .ok (.aload_n 0, 1) := decs_at DX12_parted_0 7 rfl
theorem dX12_parted_12 : decode cX12_parted 12 = .ok (.getfield 16, 3) := decs_at DX12_parted_0 8 rfl
theorem dX12_parted_15 : decode cX12_parted 15 = .ok (.iconst 1, 1) := decs_at DX12_parted_0 9 rfl
theorem dX12_parted_16 : decode cX12_parted 16 = .ok (.isub, 1) := decs_at DX12_parted_0 10 rfl
theorem dX12_parted_17 : decode cX12_parted 17 = .ok (.invokestatic 162, 3) := decs_at DX12_parted_0 11 rfl
theorem dX12_parted_20 : decode cX12_parted 20 = .ok (.ifCond .eq 25, 3) := decs_at DX12_parted_0 12 rfl
theorem dX12_parted_23 : decode cX12_parted 23 = .ok (.iload_n 2, 1) := decs_at DX12_parted_0 13 rfl
theorem dX12_parted_24 : decode cX12_parted 24 = .ok (.iconst 1, 1) := decs_at DX12_parted_0 14 rfl
theorem dX12_parted_25 : decode cX12_parted 25 = .ok (.sipush 600, 3) := decs_at DX12_parted_0 15 rfl
theorem dX12_parted_28 : decode cX12_parted 28 = .ok (.invokestatic 162, 3) := decs_at DX12_parted_0 16 rfl
theorem dX12_parted_31 : decode cX12_parted 31 = .ok (.ifCond .eq 14, 3) := decs_at DX12_parted_0 17 rfl
theorem dX12_parted_34 : decode cX12_parted 34 = .ok (.iload_n 3, 1) := decs_at DX12_parted_0 18 rfl
theorem dX12_parted_35 : decode cX12_parted 35 = .ok (.iload 4, 2) := decs_at DX12_parted_0 19 rfl
theorem dX12_parted_37 : decode cX12_parted 37 = .ok (.iload 5, 2) := decs_at DX12_parted_0 20 rfl
theorem dX12_parted_39 : decode cX12_parted 39 = .ok (.invokestatic 299, 3) := decs_at DX12_parted_0 21 rfl
theorem dX12_parted_42 : decode cX12_parted 42 = .ok (.ifCond .ne 6, 3) := decs_at DX12_parted_0 22 rfl
theorem dX12_parted_45 : decode cX12_parted 45 = .ok (.bipush (-2), 2) := decs_at DX12_parted_0 23 rfl
theorem DX12_parted_24 : decs cX12_parted [(47, .ireturn, 1), (48, .aload_n 0, 1), (49, .aload_n 0, 1), (50, .getfield 65, 3), (53, .invokevirtual 284, 3), (56, .aload_n 0, 1), (57, .iload_n 1, 1), (58, .putfield 256, 3), (61, .aload_n 0, 1), (62, .iload_n 2, 1), (63, .putfield 253, 3), (66, .aload_n 0, 1), (67, .iload_n 3, 1), (68, .iload 4, 2), (70, .iload 5, 2), (72, .invokevirtual 302, 3), (75, .ireturn, 1)] := by unfold decs; decide +kernel
theorem dX12_parted_47 : decode cX12_parted 47 = .ok (.ireturn, 1) := decs_at DX12_parted_24 0 rfl
theorem dX12_parted_48 : decode cX12_parted 48 = .ok (.aload_n 0, 1) := decs_at DX12_parted_24 1 rfl
theorem dX12_parted_49 : decode cX12_parted 49 = .ok (.aload_n 0, 1) := decs_at DX12_parted_24 2 rfl
theorem dX12_parted_50 : decode cX12_parted 50 = .ok (.getfield 65, 3) := decs_at DX12_parted_24 3 rfl
theorem dX12_parted_53 : decode cX12_parted 53 = .ok (.invokevirtual 284, 3) := decs_at DX12_parted_24 4 rfl
theorem dX12_parted_56 : decode cX12_parted 56 = .ok (.aload_n 0, 1) := decs_at DX12_parted_24 5 rfl
theorem dX12_parted_57 : decode cX12_parted 57 = .ok (.iload_n 1, 1) := decs_at DX12_parted_24 6 rfl
theorem dX12_parted_58 : decode cX12_parted 58 = .ok (.putfield 256, 3) := decs_at DX12_parted_24 7 rfl
theorem dX12_parted_61 : decode cX12_parted 61 = .ok (.aload_n 0, 1) := decs_at DX12_parted_24 8 rfl
theorem dX12_parted_62 : decode cX12_parted 62 = .ok (.iload_n 2, 1) := decs_at DX12_parted_24 9 rfl
theorem dX12_parted_63 : decode cX12_parted 63 = .ok (.putfield 253, 3) := decs_at DX12_parted_24 10 rfl
theorem dX12_parted_66 : decode cX12_parted 66 = .ok (.aload_n 0, 1) := decs_at DX12_parted_24 11 rfl
theorem dX12_parted_67 : decode cX12_parted 67 = .ok (.iload_n 3, 1) := decs_at DX12_parted_24 12 rfl
theorem dX12_parted_68 : decode cX12_parted 68 = .ok (.iload 4, 2) := decs_at DX12_parted_24 13 rfl
theorem dX12_parted_70 : decode cX12_parted 70 = .ok (.iload 5, 2) := decs_at DX12_parted_24 14 rfl
theorem dX12_parted_72 : decode cX12_parted 72 = .ok (.invokevirtual 302, 3) := decs_at DX12_parted_24 15 rfl
theorem dX12_parted_75 : decode cX12_parted 75 = .ok (.ireturn, 1) := decs_at DX12_parted_24 16 rfl
theorem DX12_order_0 : decs cX12_order [(0, .aload_n 0, 1), (1, .iconst 0, 1), (2, .putfield 106, 3), (5, .aload_n 0, 1), (6, .invokevirtual 198, 3), (9, .iload_n 1, 1), (10, .iload_n 2, 1), (11, .iload_n 3, 1), (12, .invokestatic 299, 3), (15, .ifCond .eq 22, 3), (18, .iload 4, 2), (20, .iconst 0, 1), (21, .iconst 1, 1), (22, .invokestatic 162, 3), (25, .ifCond .eq 12, 3), (28, .aload_n 0, 1), (29, .getfield 16, 3), (32, .bipush 6, 2), (34, .if_icmp .le 6, 3), (37, .bipush (-2), 2), (39, .ireturn, 1), (40, .iconst 0, 1), (41, .istore 5, 2), (43, .iload 5, 2)] := by unfold decs; decide +kernel
theorem dX12_order_0 : decode cX12_order 0 = .ok (.aload_n 0, 1) := decs_at DX12_order_0 0 rfl
theorem dX12_order_1 : decode cX12_order 1 = .ok (.iconst 0, 1) := decs_at DX12_order_0 1 rfl
theorem dX12_order_2 : decode cX12_order 2 = .ok (.putfield 106, 3) := decs_at DX12_order_0 2 rfl
theorem dX12_order_5 : decode cX12_order 5 = .ok (.aload_n 0, 1) := decs_at DX12_order_0 3 rfl
theorem dX12_order_6 : decode cX12_order 6 = .ok (.invokevirtual 198, 3) := decs_at DX12_order_0 4 rfl
theorem dX12_order_9 : decode cX12_order 9 = .ok (.iload_n 1, 1) := decs_at DX12_order_0 5 rfl
theorem dX12_order_10 : decode cX12_order 10 = .ok (.iload_n 2, 1) := decs_at DX12_order_0 6 rfl
theorem dX12_order_11 : decode cX12_order 11 = .ok (.iload_n 3, 1) := decs_at DX12_order_0 7 rfl
theorem dX12_order_12 : decode cX12_order 12 = .ok (.invokestatic 299, 3) := decs_at DX12_order_0 8 rfl
theorem dX12_order_15 : decode cX12_order 15 = .ok (.ifCond .eq 22, 3) := decs_at DX12_order_0 9 rfl
theorem dX12_order_18 : decode cX12_order 18 = .ok (.iload 4, 2) := decs_at DX12_order_0 10 rfl
theorem dX12_order_20 : decode cX12_order 20 = .ok (.iconst 0, 1) := decs_at DX12_order_0 11 rfl
theorem dX12_order_21 : decode cX12_order 21 = .ok (.iconst 1, 1) := decs_at DX12_order_0 12 rfl
theorem dX12_order_22 : decode cX12_order 22 = .ok (.invokestatic 162, 3) := decs_at DX12_order_0 13 rfl
theorem dX12_order_25 : decode cX12_order 25 = .ok (.ifCond .eq 12, 3) := decs_at DX12_order_0 14 rfl
theorem dX12_order_28 : decode cX12_order 28 = .ok (.aload_n 0, 1) := decs_at DX12_order_0 15 rfl
theorem dX12_order_29 : decode cX12_order 29 = .ok (.getfield 16, 3) := decs_at DX12_order_0 16 rfl
theorem dX12_order_32 : decode cX12_order 32 = .ok (.bipush 6, 2) := decs_at DX12_order_0 17 rfl
theorem dX12_order_34 : decode cX12_order 34 = .ok (.if_icmp .le 6, 3) := decs_at DX12_order_0 18 rfl
theorem dX12_order_37 : decode cX12_order 37 = .ok (.bipush (-2), 2) := decs_at DX12_order_0 19 rfl
theorem dX12_order_39 : decode cX12_order 39 = .ok (.ireturn, 1) := decs_at DX12_order_0 20 rfl
theorem dX12_order_40 : decode cX12_order 40 = .ok (.iconst 0, 1) := decs_at DX12_order_0 21 rfl
theorem dX12_order_41 : decode cX12_order 41 = .ok (.istore 5, 2) := decs_at DX12_order_0 22 rfl
theorem dX12_order_43 : decode cX12_order 43 = .ok (.iload 5, 2) := decs_at DX12_order_0 23 rfl
theorem DX12_order_24 : decs cX12_order [(45, .aload_n 0, 1), (46, .getfield 16, 3), (49, .if_icmp .ge 27, 3), (52, .aload_n 0, 1), (53, .getfield 68, 3), (56, .iload 5, 2), (58, .iload 5, 2), (60, .iastore, 1), (61, .aload_n 0, 1), (62, .getfield 71, 3), (65, .iload 5, 2), (67, .iload 5, 2), (69, .iastore, 1), (70, .iinc 5 1, 3), (73, .goto (-30), 3), (76, .aload_n 0, 1), (77, .aload_n 0, 1), (78, .getfield 16, 3), (81, .putfield 321, 3), (84, .iload 4, 2), (86, .ifCond .ne 9, 3), (89, .ldc_w 324, 3), (92, .goto 4, 3), (95, .iconst (-1), 1)] := by unfold decs; decide +kernel
theorem dX12_order_45 : decode cX12_order 45 = .ok (.aload_n 0, 1) := decs_at DX12_order_24 0 rfl
theorem dX12_order_46 : decode cX12_order 46 = .ok (.getfield 16, 3) := decs_at DX12_order_24 1 rfl
theorem dX12_order_49 : decode cX12_order 49 = .ok (.if_icmp .ge 27, 3) := decs_at DX12_order_24 2 rfl
theorem dX12_order_52 : decode cX12_order 52 = .ok (.aload_n 0, 1) := decs_at DX12_order_24 3 rfl
theorem dX12_order_53 : decode cX12_order 53 = .ok (.getfield 68, 3) := decs_at DX12_order_24 4 rfl
theorem dX12_order_56 : decode cX12_order 56 = .ok (.iload 5, 2) := decs_at DX12_order_24 5 rfl
theorem dX12_order_58 : decode cX12_order 58 = .ok (.iload 5, 2) := decs_at DX12_order_24 6 rfl
theorem dX12_order_60 : decode cX12_order 60 = .ok (.iastore, 1) := decs_at DX12_order_24 7 rfl
theorem dX12_order_61 : decode cX12_order 61 = .ok (.aload_n 0, 1) := decs_at DX12_order_24 8 rfl
theorem dX12_order_62 : decode cX12_order 62 = .ok (.getfield 71, 3) := decs_at DX12_order_24 9 rfl
theorem dX12_order_65 : decode cX12_order 65 = .ok (.iload 5, 2) := decs_at DX12_order_24 10 rfl
theorem dX12_order_67 : decode cX12_order 67 = .ok (.iload 5, 2) := decs_at DX12_order_24 11 rfl
theorem dX12_order_69 : decode cX12_order 69 = .ok (.iastore, 1) := decs_at DX12_order_24 12 rfl
theorem dX12_order_70 : decode cX12_order 70 = .ok (.iinc 5 1, 3) := decs_at DX12_order_24 13 rfl
theorem dX12_order_73 : decode cX12_order 73 = .ok (.goto (-30), 3) := decs_at DX12_order_24 14 rfl
theorem dX12_order_76 : decode cX12_order 76 = .ok (.aload_n 0, 1) := decs_at DX12_order_24 15 rfl
theorem dX12_order_77 : decode cX12_order 77 = .ok (.aload_n 0, 1) := decs_at DX12_order_24 16 rfl
theorem dX12_order_78 : decode cX12_order 78 = .ok (.getfield 16, 3) := decs_at DX12_order_24 17 rfl
theorem dX12_order_81 : decode cX12_order 81 = .ok (.putfield 321, 3) := decs_at DX12_order_24 18 rfl
theorem dX12_order_84 : decode cX12_order 84 = .ok (.iload 4, 2) := decs_at DX12_order_24 19 rfl
theorem dX12_order_86 : decode cX12_order 86 = .ok (.ifCond .ne 9, 3) := decs_at DX12_order_24 20 rfl
theorem dX12_order_89 : decode cX12_order 89 = .ok (.ldc_w 324, 3) := decs_at DX12_order_24 21 rfl
theorem dX12_order_92 : decode cX12_order 92 = .ok (.goto 4, 3) := decs_at DX12_order_24 22 rfl
theorem dX12_order_95 : decode cX12_order 95 = .ok (.iconst (-1), 1) := decs_at DX12_order_24 23 rfl
theorem DX12_order_48 : decs cX12_order [(96, .istore 5, 2), (98, .iconst 1, 1), (99, .istore 6, 2), (101, .iload 6, 2), (103, .ifCond .eq 98, 3), (106, .aload_n 0, 1), (107, .aload_n 0, 1), (108, .getfield 68, 3), (111, .invokevirtual 284, 3), (114, .aload_n 0, 1), (115, .iload_n 1, 1), (116, .iload_n 2, 1), (117, .iload_n 3, 1), (118, .invokevirtual 302, 3), (121, .istore 7, 2), (123, .iload 7, 2), (125, .iconst (-1), 1), (126, .if_icmp .ne 8, 3), (129, .ldc_w 324, 3), (132, .istore 7, 2), (134, .iload 4, 2), (136, .ifCond .ne 13, 3), (139, .iload 7, 2), (141, .iload 5, 2)] := by unfold decs; decide +kernel
theorem dX12_order_96 : decode cX12_order 96 = .ok (.istore 5, 2) := decs_at DX12_order_48 0 rfl
theorem dX12_order_98 : decode cX12_order 98 = .ok (.iconst 1, 1) := decs_at DX12_order_48 1 rfl
theorem dX12_order_99 : decode cX12_order 99 = .ok (.istore 6, 2) := decs_at DX12_order_48 2 rfl
theorem dX12_order_101 : decode cX12_order 101 = .ok (.iload 6, 2) := decs_at DX12_order_48 3 rfl
theorem dX12_order_103 : decode cX12_order 103 = .ok (.ifCond .eq 98, 3) := decs_at DX12_order_48 4 rfl
theorem dX12_order_106 : decode cX12_order 106 = .ok (.aload_n 0, 1) := decs_at DX12_order_48 5 rfl
theorem dX12_order_107 : decode cX12_order 107 = .ok (.aload_n 0, 1) := decs_at DX12_order_48 6 rfl
theorem dX12_order_108 : decode cX12_order 108 = .ok (.getfield 68, 3) := decs_at DX12_order_48 7 rfl
theorem dX12_order_111 : decode cX12_order 111 = .ok (.invokevirtual 284, 3) := decs_at DX12_order_48 8 rfl
theorem dX12_order_114 : decode cX12_order 114 = .ok (.aload_n 0, 1) := decs_at DX12_order_48 9 rfl
theorem dX12_order_115 : decode cX12_order 115 = .ok (.iload_n 1, 1) := decs_at DX12_order_48 10 rfl
theorem dX12_order_116 : decode cX12_order 116 = .ok (.iload_n 2, 1) := decs_at DX12_order_48 11 rfl
theorem dX12_order_117 : decode cX12_order 117 = .ok (.iload_n 3, 1) := decs_at DX12_order_48 12 rfl
theorem dX12_order_118 : decode cX12_order 118 = .ok (.invokevirtual 302, 3) := decs_at DX12_order_48 13 rfl
theorem dX12_order_121 : decode cX12_order 121 = .ok (.istore 7, 2) := decs_at DX12_order_48 14 rfl
theorem dX12_order_123 : decode cX12_order 123 = .ok (.iload 7, 2) := decs_at DX12_order_48 15 rfl
theorem dX12_order_125 : decode cX12_order 125 = .ok (.iconst (-1), 1) := decs_at DX12_order_48 16 rfl
theorem dX12_order_126 : decode cX12_order 126 = .ok (.if_icmp .ne 8, 3) := decs_at DX12_order_48 17 rfl
theorem dX12_order_129 : decode cX12_order 129 = .ok (.ldc_w 324, 3) := decs_at DX12_order_48 18 rfl
theorem dX12_order_132 : decode cX12_order 132 = .ok (.istore 7, 2) := decs_at DX12_order_48 19 rfl
theorem dX12_order_134 : decode cX12_order 134 = .ok (.iload 4, 2) := decs_at DX12_order_48 20 rfl
theorem dX12_order_136 : decode cX12_order 136 = .ok (.ifCond .ne 13, 3) := decs_at DX12_order_48 21 rfl
theorem dX12_order_139 : decode cX12_order 139 = .ok (.iload 7, 2) := decs_at DX12_order_48 22 rfl
theorem dX12_order_141 : decode cX12_order 141 = .ok (.iload 5, 2) := decs_at DX12_order_48 23 rfl
theorem DX12_order_72 : decs cX12_order [(143, .if_icmp .ge 49, 3), (146, .goto 10, 3), (149, .iload 7, 2), (151, .iload 5, 2), (153, .if_icmp .le 39, 3), (156, .iload 7, 2), (158, .istore 5, 2), (160, .iconst 0, 1), (161, .istore 8, 2), (163, .iload 8, 2), (165, .aload_n 0, 1), (166, .getfield 16, 3), (169, .if_icmp .ge 23, 3), (172, .aload_n 0, 1), (173, .getfield 71, 3), (176, .iload 8, 2), (178, .aload_n 0, 1), (179, .getfield 68, 3), (182, .iload 8, 2), (184, .iaload, 1), (185, .iastore, 1), (186, .iinc 8 1, 3), (189, .goto (-26), 3), (192, .aload_n 0, 1)] := by unfold decs; decide +kernel
theorem dX12_order_143 : decode cX12_order 143 = .ok (.if_icmp .ge 49, 3) := decs_at DX12_order_72 0 rfl
theorem dX12_order_146 : decode cX12_order 146 = .ok (.goto 10, 3) := decs_at DX12_order_72 1 rfl
theorem dX12_order_149 : decode cX12_order 149 = .ok (.iload 7, 2) := decs_at DX12_order_72 2 rfl
theorem dX12_order_151 : decode cX12_order 151 = .ok (.iload 5, 2) := decs_at DX12_order_72 3 rfl
theorem dX12_order_153 : decode cX12_order 153 = .ok (.if_icmp .le 39, 3) := decs_at DX12_order_72 4 rfl
theorem dX12_order_156 : decode cX12_order 156 = .ok (.iload 7, 2) := decs_at DX12_order_72 5 rfl
theorem dX12_order_158 : decode cX12_order 158 = .ok (.istore 5, 2) := decs_at DX12_order_72 6 rfl
theorem dX12_order_160 : decode cX12_order 160 = .ok (.iconst 0, 1) := decs_at DX12_order_72 7 rfl
theorem dX12_order_161 : decode cX12_order 161 = .ok (.istore 8, 2) := decs_at DX12_order_72 8 rfl
theorem dX12_order_163 : decode cX12_order 163 = .ok (.iload 8, 2) := decs_at DX12_order_72 9 rfl
theorem dX12_order_165 : decode cX12_order 165 = .ok (.aload_n 0, 1) := decs_at DX12_order_72 10 rfl
theorem dX12_order_166 : decode cX12_order 166 = .ok (.getfield 16, 3) := decs_at DX12_order_72 11 rfl
theorem dX12_order_169 : decode cX12_order 169 = .ok (.if_icmp .ge 23, 3) := decs_at DX12_order_72 12 rfl
theorem dX12_order_172 : decode cX12_order 172 = .ok (.aload_n 0, 1) := decs_at DX12_order_72 13 rfl
theorem dX12_order_173 : decode cX12_order 173 = .ok (.getfield 71, 3) := decs_at DX12_order_72 14 rfl
theorem dX12_order_176 : decode cX12_order 176 = .ok (.iload 8, 2) := decs_at DX12_order_72 15 rfl
theorem dX12_order_178 : decode cX12_order 178 = .ok (.aload_n 0, 1) := decs_at DX12_order_72 16 rfl
theorem dX12_order_179 : decode cX12_order 179 = .ok (.getfield 68, 3) := decs_at DX12_order_72 17 rfl
theorem dX12_order_182 : decode cX12_order 182 = .ok (.iload 8, 2) := decs_at DX12_order_72 18 rfl
theorem dX12_order_184 : decode cX12_order 184 = .ok (.iaload, 1) := decs_at DX12_order_72 19 rfl
theorem dX12_order_185 : decode cX12_order 185 = .ok (.iastore, 1) := decs_at DX12_order_72 20 rfl
theorem dX12_order_186 : decode cX12_order 186 = .ok (.iinc 8 1, 3) := decs_at DX12_order_72 21 rfl
theorem dX12_order_189 : decode cX12_order 189 = .ok (.goto (-26), 3) := decs_at DX12_order_72 22 rfl
theorem dX12_order_192 : decode cX12_order 192 = .ok (.aload_n 0, 1) := decs_at DX12_order_72 23 rfl
theorem DX12_order_96 : decs cX12_order [(193, .invokevirtual 325, 3), (196, .istore 6, 2), (198, .goto (-97), 3), (201, .iload 5, 2), (203, .ldc_w 324, 3), (206, .if_icmp .ne 7, 3), (209, .iconst (-1), 1), (210, .goto 5, 3), (213, .iload 5, 2), (215, .ireturn, 1)] := by unfold decs; decide +kernel
theorem dX12_order_193 : decode cX12_order 193 = .ok (.invokevirtual 325, 3) := decs_at DX12_order_96 0 rfl
theorem dX12_order_196 : decode cX12_order 196 = .ok (.istore 6, 2) := decs_at DX12_order_96 1 rfl
theorem dX12_order_198 : decode cX12_order 198 = .ok (.goto (-97), 3) := decs_at DX12_order_96 2 rfl
theorem dX12_order_201 : decode cX12_order 201 = .ok (.iload 5, 2) := decs_at DX12_order_96 3 rfl
theorem dX12_order_203 : decode cX12_order 203 = .ok (.ldc_w 324, 3) := decs_at DX12_order_96 4 rfl
theorem dX12_order_206 : decode cX12_order 206 = .ok (.if_icmp .ne 7, 3) := decs_at DX12_order_96 5 rfl
theorem dX12_order_209 : decode cX12_order 209 = .ok (.iconst (-1), 1) := decs_at DX12_order_96 6 rfl
theorem dX12_order_210 : decode cX12_order 210 = .ok (.goto 5, 3) := decs_at DX12_order_96 7 rfl
theorem dX12_order_213 : decode cX12_order 213 = .ok (.iload 5, 2) := decs_at DX12_order_96 8 rfl
theorem dX12_order_215 : decode cX12_order 215 = .ok (.ireturn, 1) := decs_at DX12_order_96 9 rfl
theorem DX12_goOn_0 : decs cX12_goOn [(0, .aload_n 0, 1), (1, .getfield 16, 3), (4, .iconst 2, 1), (5, .isub, 1), (6, .istore_n 1, 1), (7, .iload_n 1, 1), (8, .ifCond .lt 26, 3), (11, .aload_n 0, 1), (12, .getfield 68, 3), (15, .iload_n 1, 1), (16, .iaload, 1), (17, .aload_n 0, 1), (18, .getfield 68, 3), (21, .iload_n 1, 1), (22, .iconst 1, 1), (23, .iadd, 1), (24, .iaload, 1), (25, .if_icmp .le 9, 3), (28, .iinc 1 (-1), 3), (31, .goto (-24), 3), (34, .iload_n 1, 1), (35, .ifCond .ge 5, 3), (38, .iconst 0, 1), (39, .ireturn, 1)] := by unfold decs; decide +kernel
theorem dX12_goOn_0 : decode cX12_goOn 0 = .ok (.aload_n 0, 1) := decs_at DX12_goOn_0 0 rfl
theorem dX12_goOn_1 : decode cX12_goOn 1 = .ok (.getfield 16, 3) := decs_at DX12_goOn_0 1 rfl
theorem dX12_goOn_4 : decode cX12_goOn 4 = .ok (.iconst 2, 1) := decs_at DX12_goOn_0 2 rfl
theorem dX12_goOn_5 : decode cX12_goOn 5 = .ok (.isub, 1) := decs_at DX12_goOn_0 3 rfl
theorem dX12_goOn_6 : decode cX12_goOn 6 = .ok (.istore_n 1, 1) := decs_at DX12_goOn_0 4 rfl
theorem dX12_goOn_7 : decode cX12_goOn 7 = .ok (.iload_n 1, 1) := decs_at DX12_goOn_0 5 rfl
theorem dX12_goOn_8 : decode cX12_goOn 8 = .ok (.ifCond .lt 26, 3) := decs_at DX12_goOn_0 6 rfl
theorem dX12_goOn_11 : decode cX12_goOn 11 = .ok (.aload_n 0, 1) := decs_at DX12_goOn_0 7 rfl
theorem dX12_goOn_12 : decode cX12_goOn 12 = .ok (.getfield 68, 3) := decs_at DX12_goOn_0 8 rfl
theorem dX12_goOn_15 : decode cX12_goOn 15 = .ok (.iload_n 1, 1) := decs_at DX12_goOn_0 9 rfl
theorem dX12_goOn_16 : decode cX12_goOn 16 = .ok (.iaload, 1) := decs_at DX12_goOn_0 10 rfl
theorem dX12_goOn_17 : decode cX12_goOn 17 = .ok (.aload_n 0, 1) := decs_at DX12_goOn_0 11 rfl
theorem dX12_goOn_18 : decode cX12_goOn 18 = .ok (.getfield 68, 3) := decs_at DX12_goOn_0 12 rfl
theorem dX12_goOn_21 : decode cX12_goOn 21 = .ok (.iload_n 1, 1) := decs_at DX12_goOn_0 13 rfl
theorem dX12_goOn_22 : decode cX12_goOn 22 = .ok (.iconst 1, 1) := decs_at DX12_goOn_0 14 rfl
theorem dX12_goOn_23 : decode cX12_goOn 23 = .ok (.iadd, 1) := decs_at DX12_goOn_0 15 rfl
theorem dX12_goOn_24 : decode cX12_goOn 24 = .ok (.iaload, 1) := decs_at DX12_goOn_0 16 rfl
theorem dX12_goOn_25 : decode cX12_goOn 25 = .ok (.if_icmp .le 9, 3) := decs_at DX12_goOn_0 17 rfl
theorem dX12_goOn_28 : decode cX12_goOn 28 = .ok (.iinc 1 (-1), 3) := decs_at DX12_goOn_0 18 rfl
theorem dX12_goOn_31 : decode cX12_goOn 31 = .ok (.goto (-24), 3) := decs_at DX12_goOn_0 19 rfl
theorem dX12_goOn_34 : decode cX12_goOn 34 = .ok (.iload_n 1, 1) := decs_at DX12_goOn_0 20 rfl
theorem dX12_goOn_35 : decode cX12_goOn 35 = .ok (.ifCond .ge 5, 3) := decs_at DX12_goOn_0 21 rfl
theorem dX12_goOn_38 : decode cX12_goOn 38 = .ok (.iconst 0, 1) := decs_at DX12_goOn_0 22 rfl
theorem dX12_goOn_39 : decode cX12_goOn 39 = .ok (.ireturn, 1) := decs_at DX12_goOn_0 23 rfl
theorem DX12_goOn_24 : decs cX12_goOn [(40, .aload_n 0, 1), (41, .getfield 16, 3), (44, .iconst 1, 1), (45, .isub, 1), (46, .istore_n 2, 1), (47, .aload_n 0, 1), (48, .getfield 68, 3), (51, .iload_n 2, 1), (52, .iaload, 1), (53, .aload_n 0, 1), (54, .getfield 68, 3), (57, .iload_n 1, 1), (58, .iaload, 1), (59, .if_icmp .ge 9, 3), (62, .iinc 2 (-1), 3), (65, .goto (-18), 3), (68, .aload_n 0, 1), (69, .iload_n 1, 1), (70, .iload_n 2, 1), (71, .invokevirtual 328, 3), (74, .iload_n 1, 1), (75, .iconst 1, 1), (76, .iadd, 1), (77, .istore_n 3, 1)] := by unfold decs; decide +kernel
theorem dX12_goOn_40 : decode cX12_goOn 40 = .ok (.aload_n 0, 1) := decs_at DX12_goOn_24 0 rfl
theorem dX12_goOn_41 : decode cX12_goOn 41 = .ok (.getfield 16, 3) := decs_at DX12_goOn_24 1 rfl
theorem dX12_goOn_44 : decode cX12_goOn 44 = .ok (.iconst 1, 1) := decs_at DX12_goOn_24 2 rfl
theorem dX12_goOn_45 : decode cX12_goOn 45 = .ok (.isub, 1) := decs_at DX12_goOn_24 3 rfl
theorem dX12_goOn_46 : decode cX12_goOn 46 = .ok (.istore_n 2, 1) := decs_at DX12_goOn_24 4 rfl
theorem dX12_goOn_47 : decode cX12_goOn 47 = .ok (.aload_n 0, 1) := decs_at DX12_goOn_24 5 rfl
theorem dX12_goOn_48 : decode cX12_goOn 48 = .ok (.getfield 68, 3) := decs_at DX12_goOn_24 6 rfl
theorem dX12_goOn_51 : decode cX12_goOn 51 = .ok (.iload_n 2, 1) := decs_at DX12_goOn_24 7 rfl
theorem dX12_goOn_52 : decode cX12_goOn 52 = .ok (.iaload, 1) := decs_at DX12_goOn_24 8 rfl
theorem dX12_goOn_53 : decode cX12_goOn 53 = .ok (.aload_n 0, 1) := decs_at DX12_goOn_24 9 rfl
theorem dX12_goOn_54 : decode cX12_goOn 54 = .ok (.getfield 68, 3) := decs_at DX12_goOn_24 10 rfl
theorem dX12_goOn_57 : decode cX12_goOn 57 = .ok (.iload_n 1, 1) := decs_at DX12_goOn_24 11 rfl
theorem dX12_goOn_58 : decode cX12_goOn 58 = .ok (.iaload, 1) := decs_at DX12_goOn_24 12 rfl
theorem dX12_goOn_59 : decode cX12_goOn 59 = .ok (.if_icmp .ge 9, 3) := decs_at DX12_goOn_24 13 rfl
theorem dX12_goOn_62 : decode cX12_goOn 62 = .ok (.iinc 2 (-1), 3) := decs_at DX12_goOn_24 14 rfl
theorem dX12_goOn_65 : decode cX12_goOn 65 = .ok (.goto (-18), 3) := decs_at DX12_goOn_24 15 rfl
theorem dX12_goOn_68 : decode cX12_goOn 68 = .ok (.aload_n 0, 1) := decs_at DX12_goOn_24 16 rfl
theorem dX12_goOn_69 : decode cX12_goOn 69 = .ok (.iload_n 1, 1) := decs_at DX12_goOn_24 17 rfl
theorem dX12_goOn_70 : decode cX12_goOn 70 = .ok (.iload_n 2, 1) := decs_at DX12_goOn_24 18 rfl
theorem dX12_goOn_71 : decode cX12_goOn 71 = .ok (.invokevirtual 328, 3) := decs_at DX12_goOn_24 19 rfl
theorem dX12_goOn_74 : decode cX12_goOn 74 = .ok (.iload_n 1, 1) := decs_at DX12_goOn_24 20 rfl
theorem dX12_goOn_75 : decode cX12_goOn 75 = .ok (.iconst 1, 1) := decs_at DX12_goOn_24 21 rfl
theorem dX12_goOn_76 : decode cX12_goOn 76 = .ok (.iadd, 1) := decs_at DX12_goOn_24 22 rfl
theorem dX12_goOn_77 : decode cX12_goOn 77 = .ok (.istore_n 3, 1) := decs_at DX12_goOn_24 23 rfl
theorem DX12_goOn_48 : decs cX12_goOn [(78, .aload_n 0, 1), (79, .getfield 16, 3), (82, .iconst 1, 1), (83, .isub, 1), (84, .istore 4, 2), (86, .iload_n 3, 1), (87, .iload 4, 2), (89, .if_icmp .ge 19, 3), (92, .aload_n 0, 1), (93, .iload_n 3, 1), (94, .iload 4, 2), (96, .invokevirtual 328, 3), (99, .iinc 3 1, 3), (102, .iinc 4 (-1), 3), (105, .goto (-19), 3), (108, .iconst 1, 1), (109, .ireturn, 1)] := by unfold decs; decide +kernel
theorem dX12_goOn_78 : decode cX12_goOn 78 = .ok (.aload_n 0, 1) := decs_at DX12_goOn_48 0 rfl
theorem dX12_goOn_79 : decode cX12_goOn 79 = .ok (.getfield 16, 3) := decs_at DX12_goOn_48 1 rfl
theorem dX12_goOn_82 : decode cX12_goOn 82 = .ok (.iconst 1, 1) := decs_at DX12_goOn_48 2 rfl
theorem dX12_goOn_83 : decode cX12_goOn 83 = .ok (.isub, 1) := decs_at DX12_goOn_48 3 rfl
theorem dX12_goOn_84 : decode cX12_goOn 84 = .ok (.istore 4, 2) := decs_at DX12_goOn_48 4 rfl
theorem dX12_goOn_86 : decode cX12_goOn 86 = .ok (.iload_n 3, 1) := decs_at DX12_goOn_48 5 rfl
theorem dX12_goOn_87 : decode cX12_goOn 87 = .ok (.iload 4, 2) := decs_at DX12_goOn_48 6 rfl
theorem dX12_goOn_89 : decode cX12_goOn 89 = .ok (.if_icmp .ge 19, 3) := decs_at DX12_goOn_48 7 rfl
theorem dX12_goOn_92 : decode cX12_goOn 92 = .ok (.aload_n 0, 1) := decs_at DX12_goOn_48 8 rfl
theorem dX12_goOn_93 : decode cX12_goOn 93 = .ok (.iload_n 3, 1) := decs_at DX12_goOn_48 9 rfl
theorem dX12_goOn_94 : decode cX12_goOn 94 = .ok (.iload 4, 2) := decs_at DX12_goOn_48 10 rfl
theorem dX12_goOn_96 : decode cX12_goOn 96 = .ok (.invokevirtual 328, 3) := decs_at DX12_goOn_48 11 rfl
theorem dX12_goOn_99 : decode cX12_goOn 99 = .ok (.iinc 3 1, 3) := decs_at DX12_goOn_48 12 rfl
theorem dX12_goOn_102 : decode cX12_goOn 102 = .ok (.iinc 4 (-1), 3) := decs_at DX12_goOn_48 13 rfl
theorem dX12_goOn_105 : decode cX12_goOn 105 = .ok (.goto (-19), 3) := decs_at DX12_goOn_48 14 rfl
theorem dX12_goOn_108 : decode cX12_goOn 108 = .ok (.iconst 1, 1) := decs_at DX12_goOn_48 15 rfl
theorem dX12_goOn_109 : decode cX12_goOn 109 = .ok (.ireturn, 1) := decs_at DX12_goOn_48 16 rfl
theorem DX12_exchange_0 : decs cX12_exchange [(0, .aload_n 0, 1), (1, .getfield 68, 3), (4, .iload_n 1, 1), (5, .iaload, 1), (6, .istore_n 3, 1), (7, .aload_n 0, 1), (8, .getfield 68, 3), (11, .iload_n 1, 1), (12, .aload_n 0, 1), (13, .getfield 68, 3), (16, .iload_n 2, 1), (17, .iaload, 1), (18, .iastore, 1), (19, .aload_n 0, 1), (20, .getfield 68, 3), (23, .iload_n 2, 1), (24, .iload_n 3, 1), (25, .iastore, 1), (26, .return_, 1)] := by unfold decs; decide +kernel
theorem dX12_exchange_0 : decode cX12_exchange 0 = .ok (.aload_n 0, 1) := decs_at DX12_exchange_0 0 rfl
theorem dX12_exchange_1 : decode cX12_exchange 1 = .ok (.getfield 68, 3) := decs_at DX12_exchange_0 1 rfl
theorem dX12_exchange_4 : decode cX12_exchange 4 = .ok (.iload_n 1, 1) := decs_at DX12_exchange_0 2 rfl
theorem dX12_exchange_5 : decode cX12_exchange 5 = .ok (.iaload, 1) := decs_at DX12_exchange_0 3 rfl
theorem dX12_exchange_6 : decode cX12_exchange 6 = .ok (.istore_n 3, 1) := decs_at DX12_exchange_0 4 rfl
theorem dX12_exchange_7 : decode cX12_exchange 7 = .ok (.aload_n 0, 1) := decs_at DX12_exchange_0 5 rfl
theorem dX12_exchange_8 : decode cX12_exchange 8 = .ok (.getfield 68, 3) := decs_at DX12_exchange_0 6 rfl
theorem dX12_exchange_11 : decode cX12_exchange 11 = .ok (.iload_n 1, 1) := decs_at DX12_exchange_0 7 rfl
theorem dX12_exchange_12 : decode cX12_exchange 12 = .ok (.aload_n 0, 1) := decs_at DX12_exchange_0 8 rfl
theorem dX12_exchange_13 : decode cX12_exchange 13 = .ok (.getfield 68, 3) := decs_at DX12_exchange_0 9 rfl
theorem dX12_exchange_16 : decode cX12_exchange 16 = .ok (.iload_n 2, 1) := decs_at DX12_exchange_0 10 rfl
theorem dX12_exchange_17 : decode cX12_exchange 17 = .ok (.iaload, 1) := decs_at DX12_exchange_0 11 rfl
theorem dX12_exchange_18 : decode cX12_exchange 18 = .ok (.iastore, 1) := decs_at DX12_exchange_0 12 rfl
theorem dX12_exchange_19 : decode cX12_exchange 19 = .ok (.aload_n 0, 1) := decs_at DX12_exchange_0 13 rfl
theorem dX12_exchange_20 : decode cX12_exchange 20 = .ok (.getfield 68, 3) := decs_at DX12_exchange_0 14 rfl
theorem dX12_exchange_23 : decode cX12_exchange 23 = .ok (.iload_n 2, 1) := decs_at DX12_exchange_0 15 rfl
theorem dX12_exchange_24 : decode cX12_exchange 24 = .ok (.iload_n 3, 1) := decs_at DX12_exchange_0 16 rfl
theorem dX12_exchange_25 : decode cX12_exchange 25 = .ok (.iastore, 1) := decs_at DX12_exchange_0 17 rfl
theorem dX12_exchange_26 : decode cX12_exchange 26 = .ok (.return_, 1) := decs_at DX12_exchange_0 18 rfl
theorem DX12_ordered_0 : decs cX12_ordered [(0, .aload_n 0, 1), (1, .iconst 0, 1), (2, .putfield 106, 3), (5, .iload_n 1, 1), (6, .ifCond .lt 22, 3), (9, .iload_n 1, 1), (10, .aload_n 0, 1), (11, .getfield 321, 3), (14, .if_icmp .ge 14, 3), (17, .aload_n 0, 1), (18, .getfield 71, 3), (21, .iload_n 1, 1), (22, .iaload, 1), (23, .iconst 1, 1), (24, .iadd, 1), (25, .goto 4, 3), (28, .iconst (-1), 1), (29, .ireturn, 1)] := by unfold decs; decide +kernel
theorem dX12_ordered_0 : decode cX12_ordered 0 = .ok (.aload_n 0, 1) := decs_at DX12_ordered_0 0 rfl
theorem dX12_ordered_1 : decode cX12_ordered 1 = .ok (.iconst 0, 1) := decs_at DX12_ordered_0 1 rfl
theorem dX12_ordered_2 : decode cX12_ordered 2 = .ok (.putfield 106, 3) := decs_at DX12_ordered_0 2 rfl
theorem dX12_ordered_5 : decode cX12_ordered 5 = .ok (.iload_n 1, 1) := decs_at DX12_ordered_0 3 rfl
theorem dX12_ordered_6 : decode cX12_ordered 6 = .ok (.ifCond .lt 22, 3) := decs_at DX12_ordered_0 4 rfl
theorem dX12_ordered_9 : decode cX12_ordered 9 = .ok (.iload_n 1, 1) := decs_at DX12_ordered_0 5 rfl
theorem dX12_ordered_10 : decode cX12_ordered 10 = .ok (.aload_n 0, 1) := decs_at DX12_ordered_0 6 rfl
theorem dX12_ordered_11 : decode cX12_ordered 11 = .ok (.getfield 321, 3) := decs_at DX12_ordered_0 7 rfl
theorem dX12_ordered_14 : decode cX12_ordered 14 = .ok (.if_icmp .ge 14, 3) := decs_at DX12_ordered_0 8 rfl
theorem dX12_ordered_17 : decode cX12_ordered 17 = .ok (.aload_n 0, 1) := decs_at DX12_ordered_0 9 rfl
theorem dX12_ordered_18 : decode cX12_ordered 18 = .ok (.getfield 71, 3) := decs_at DX12_ordered_0 10 rfl
theorem dX12_ordered_21 : decode cX12_ordered 21 = .ok (.iload_n 1, 1) := decs_at DX12_ordered_0 11 rfl
theorem dX12_ordered_22 : decode cX12_ordered 22 = .ok (.iaload, 1) := decs_at DX12_ordered_0 12 rfl
theorem dX12_ordered_23 : decode cX12_ordered 23 = .ok (.iconst 1, 1) := decs_at DX12_ordered_0 13 rfl
theorem dX12_ordered_24 : decode cX12_ordered 24 = .ok (.iadd, 1) := decs_at DX12_ordered_0 14 rfl
theorem dX12_ordered_25 : decode cX12_ordered 25 = .ok (.goto 4, 3) := decs_at DX12_ordered_0 15 rfl
theorem dX12_ordered_28 : decode cX12_ordered 28 = .ok (.iconst (-1), 1) := decs_at DX12_ordered_0 16 rfl
theorem dX12_ordered_29 : decode cX12_ordered 29 = .ok (.ireturn, 1) := decs_at DX12_ordered_0 17 rfl
theorem DX12_cut_0 : decs cX12_cut [(0, .aload_n 0, 1), (1, .iconst 0, 1), (2, .putfield 106, 3), (5, .aload_n 0, 1), (6, .invokevirtual 198, 3), (9, .iload_n 1, 1), (10, .iload_n 2, 1), (11, .iload_n 3, 1), (12, .invokestatic 299, 3), (15, .ifCond .eq 17, 3), (18, .iload 4, 2), (20, .ifCond .lt 12, 3), (23, .aload_n 0, 1), (24, .getfield 16, 3), (27, .bipush 10, 2), (29, .if_icmp .le 6, 3), (32, .bipush (-2), 2), (34, .ireturn, 1), (35, .aload_n 0, 1), (36, .aload_n 0, 1), (37, .getfield 65, 3), (40, .invokevirtual 284, 3), (43, .iconst 0, 1), (44, .istore 5, 2)] := by unfold decs; decide +kernel
theorem dX12_cut_0 : decode cX12_cut 0 = .ok (.aload_n 0, 1) := decs_at DX12_cut_0 0 rfl
theorem dX12_cut_1 : decode cX12_cut 1 = .ok (.iconst 0, 1) := decs_at DX12_cut_0 1 rfl
theorem dX12_cut_2 : decode cX12_cut 2 = .ok (.putfield 106, 3) := decs_at DX12_cut_0 2 rfl
theorem dX12_cut_5 : decode cX12_cut 5 = .ok (.aload_n 0, 1) := decs_at DX12_cut_0 3 rfl
theorem dX12_cut_6 : decode cX12_cut 6 = .ok (.invokevirtual 198, 3) := decs_at DX12_cut_0 4 rfl
theorem dX12_cut_9 : decode cX12_cut 9 = .ok (.iload_n 1, 1) := decs_at DX12_cut_0 5 rfl
theorem dX12_cut_10 : decode cX12_cut 10 = .ok (.iload_n 2, 1) := decs_at DX12_cut_0 6 rfl
theorem dX12_cut_11 : decode cX12_cut 11 = .ok (.iload_n 3, 1) := decs_at DX12_cut_0 7 rfl
theorem dX12_cut_12 : decode cX12_cut 12 = .ok (.invokestatic 299, 3) := decs_at DX12_cut_0 8 rfl
theorem dX12_cut_15 : decode cX12_cut 15 = .ok (.ifCond .eq 17, 3) := decs_at DX12_cut_0 9 rfl
theorem dX12_cut_18 : decode cX12_cut 18 = .ok (.iload 4, 2) := decs_at DX12_cut_0 10 rfl
theorem dX12_cut_20 : decode cX12_cut 20 = .ok (.ifCond .lt 12, 3) := decs_at DX12_cut_0 11 rfl
theorem dX12_cut_23 : decode cX12_cut 23 = .ok (.aload_n 0, 1) := decs_at DX12_cut_0 12 rfl
theorem dX12_cut_24 : decode cX12_cut 24 = .ok (.getfield 16, 3) := decs_at DX12_cut_0 13 rfl
theorem dX12_cut_27 : decode cX12_cut 27 = .ok (.bipush 10, 2) := decs_at DX12_cut_0 14 rfl
theorem dX12_cut_29 : decode cX12_cut 29 = .ok (.if_icmp .le 6, 3) := decs_at DX12_cut_0 15 rfl
theorem dX12_cut_32 : decode cX12_cut 32 = .ok (.bipush (-2), 2) := decs_at DX12_cut_0 16 rfl
theorem dX12_cut_34 : decode cX12_cut 34 = .ok (.ireturn, 1) := decs_at DX12_cut_0 17 rfl
theorem dX12_cut_35 : decode cX12_cut 35 = .ok (.aload_n 0, 1) := decs_at DX12_cut_0 18 rfl
theorem dX12_cut_36 : decode cX12_cut 36 = .ok (.aload_n 0, 1) := decs_at DX12_cut_0 19 rfl
theorem dX12_cut_37 : decode cX12_cut 37 = .ok (.getfield 65, 3) := decs_at DX12_cut_0 20 rfl
theorem dX12_cut_40 : decode cX12_cut 40 = .ok (.invokevirtual 284, 3) := decs_at DX12_cut_0 21 rfl
theorem dX12_cut_43 : decode cX12_cut 43 = .ok (.iconst 0, 1) := decs_at DX12_cut_0 22 rfl
theorem dX12_cut_44 : decode cX12_cut 44 = .ok (.istore 5, 2) := decs_at DX12_cut_0 23 rfl
theorem DX12_cut_24 : decs cX12_cut [(46, .iconst 0, 1), (47, .istore 6, 2), (49, .iconst 1, 1), (50, .istore 7, 2), (52, .iload 7, 2), (54, .aload_n 0, 1), (55, .getfield 16, 3), (58, .if_icmp .gt 35, 3), (61, .aload_n 0, 1), (62, .getfield 38, 3), (65, .iload 7, 2), (67, .iaload, 1), (68, .iconst 1, 1), (69, .if_icmp .ne 6, 3), (72, .goto 15, 3), (75, .iload 5, 2), (77, .iconst 1, 1), (78, .iload 7, 2), (80, .ishl, 1), (81, .ior, 1), (82, .istore 5, 2), (84, .iinc 6 1, 3), (87, .iinc 7 1, 3), (90, .goto (-38), 3)] := by unfold decs; decide +kernel
theorem dX12_cut_46 : decode cX12_cut 46 = .ok (.iconst 0, 1) := decs_at DX12_cut_24 0 rfl
theorem dX12_cut_47 : decode cX12_cut 47 = .ok (.istore 6, 2) := decs_at DX12_cut_24 1 rfl
theorem dX12_cut_49 : decode cX12_cut 49 = .ok (.iconst 1, 1) := decs_at DX12_cut_24 2 rfl
theorem dX12_cut_50 : decode cX12_cut 50 = .ok (.istore 7, 2) := decs_at DX12_cut_24 3 rfl
theorem dX12_cut_52 : decode cX12_cut 52 = .ok (.iload 7, 2) := decs_at DX12_cut_24 4 rfl
theorem dX12_cut_54 : decode cX12_cut 54 = .ok (.aload_n 0, 1) := decs_at DX12_cut_24 5 rfl
theorem dX12_cut_55 : decode cX12_cut 55 = .ok (.getfield 16, 3) := decs_at DX12_cut_24 6 rfl
theorem dX12_cut_58 : decode cX12_cut 58 = .ok (.if_icmp .gt 35, 3) := decs_at DX12_cut_24 7 rfl
theorem dX12_cut_61 : decode cX12_cut 61 = .ok (.aload_n 0, 1) := decs_at DX12_cut_24 8 rfl
theorem dX12_cut_62 : decode cX12_cut 62 = .ok (.getfield 38, 3) := decs_at DX12_cut_24 9 rfl
theorem dX12_cut_65 : decode cX12_cut 65 = .ok (.iload 7, 2) := decs_at DX12_cut_24 10 rfl
theorem dX12_cut_67 : decode cX12_cut 67 = .ok (.iaload, 1) := decs_at DX12_cut_24 11 rfl
theorem dX12_cut_68 : decode cX12_cut 68 = .ok (.iconst 1, 1) := decs_at DX12_cut_24 12 rfl
theorem dX12_cut_69 : decode cX12_cut 69 = .ok (.if_icmp .ne 6, 3) := decs_at DX12_cut_24 13 rfl
theorem dX12_cut_72 : decode cX12_cut 72 = .ok (.goto 15, 3) := decs_at DX12_cut_24 14 rfl
theorem dX12_cut_75 : decode cX12_cut 75 = .ok (.iload 5, 2) := decs_at DX12_cut_24 15 rfl
theorem dX12_cut_77 : decode cX12_cut 77 = .ok (.iconst 1, 1) := decs_at DX12_cut_24 16 rfl
theorem dX12_cut_78 : decode cX12_cut 78 = .ok (.iload 7, 2) := decs_at DX12_cut_24 17 rfl
theorem dX12_cut_80 : decode cX12_cut 80 = .ok (.ishl, 1) := decs_at DX12_cut_24 18 rfl
theorem dX12_cut_81 : decode cX12_cut 81 = .ok (.ior, 1) := decs_at DX12_cut_24 19 rfl
theorem dX12_cut_82 : decode cX12_cut 82 = .ok (.istore 5, 2) := decs_at DX12_cut_24 20 rfl
theorem dX12_cut_84 : decode cX12_cut 84 = .ok (.iinc 6 1, 3) := decs_at DX12_cut_24 21 rfl
theorem dX12_cut_87 : decode cX12_cut 87 = .ok (.iinc 7 1, 3) := decs_at DX12_cut_24 22 rfl
theorem dX12_cut_90 : decode cX12_cut 90 = .ok (.goto (-38), 3) := decs_at DX12_cut_24 23 rfl
theorem DX12_cut_48 : decs cX12_cut [(93, .iconst 0, 1), (94, .istore 7, 2), (96, .iload 7, 2), (98, .bipush 11, 2), (100, .if_icmp .ge 17, 3), (103, .aload_n 0, 1), (104, .getfield 74, 3), (107, .iload 7, 2), (109, .iconst 0, 1), (110, .bastore, 1), (111, .iinc 7 1, 3), (114, .goto (-18), 3), (117, .iload 5, 2), (119, .istore 7, 2), (121, .iconst 1, 1), (122, .istore 8, 2), (124, .iload 8, 2), (126, .ifCond .eq 120, 3), (129, .iconst 0, 1), (130, .istore 9, 2), (132, .iconst 1, 1), (133, .istore 10, 2), (135, .iload 10, 2), (137, .aload_n 0, 1)] := by unfold decs; decide +kernel
theorem dX12_cut_93 : decode cX12_cut 93 = .ok (.iconst 0, 1) := decs_at DX12_cut_48 0 rfl
theorem dX12_cut_94 : decode cX12_cut 94 = .ok (.istore 7, 2) := decs_at DX12_cut_48 1 rfl
theorem dX12_cut_96 : decode cX12_cut 96 = .ok (.iload 7, 2) := decs_at DX12_cut_48 2 rfl
theorem dX12_cut_98 : decode cX12_cut 98 = .ok (.bipush 11, 2) := decs_at DX12_cut_48 3 rfl
theorem dX12_cut_100 : decode cX12_cut 100 = .ok (.if_icmp .ge 17, 3) := decs_at DX12_cut_48 4 rfl
theorem dX12_cut_103 : decode cX12_cut 103 = .ok (.aload_n 0, 1) := decs_at DX12_cut_48 5 rfl
theorem dX12_cut_104 : decode cX12_cut 104 = .ok (.getfield 74, 3) := decs_at DX12_cut_48 6 rfl
theorem dX12_cut_107 : decode cX12_cut 107 = .ok (.iload 7, 2) := decs_at DX12_cut_48 7 rfl
theorem dX12_cut_109 : decode cX12_cut 109 = .ok (.iconst 0, 1) := decs_at DX12_cut_48 8 rfl
theorem dX12_cut_110 : decode cX12_cut 110 = .ok (.bastore, 1) := decs_at DX12_cut_48 9 rfl
theorem dX12_cut_111 : decode cX12_cut 111 = .ok (.iinc 7 1, 3) := decs_at DX12_cut_48 10 rfl
theorem dX12_cut_114 : decode cX12_cut 114 = .ok (.goto (-18), 3) := decs_at DX12_cut_48 11 rfl
theorem dX12_cut_117 : decode cX12_cut 117 = .ok (.iload 5, 2) := decs_at DX12_cut_48 12 rfl
theorem dX12_cut_119 : decode cX12_cut 119 = .ok (.istore 7, 2) := decs_at DX12_cut_48 13 rfl
theorem dX12_cut_121 : decode cX12_cut 121 = .ok (.iconst 1, 1) := decs_at DX12_cut_48 14 rfl
theorem dX12_cut_122 : decode cX12_cut 122 = .ok (.istore 8, 2) := decs_at DX12_cut_48 15 rfl
theorem dX12_cut_124 : decode cX12_cut 124 = .ok (.iload 8, 2) := decs_at DX12_cut_48 16 rfl
theorem dX12_cut_126 : decode cX12_cut 126 = .ok (.ifCond .eq 120, 3) := decs_at DX12_cut_48 17 rfl
theorem dX12_cut_129 : decode cX12_cut 129 = .ok (.iconst 0, 1) := decs_at DX12_cut_48 18 rfl
theorem dX12_cut_130 : decode cX12_cut 130 = .ok (.istore 9, 2) := decs_at DX12_cut_48 19 rfl
theorem dX12_cut_132 : decode cX12_cut 132 = .ok (.iconst 1, 1) := decs_at DX12_cut_48 20 rfl
theorem dX12_cut_133 : decode cX12_cut 133 = .ok (.istore 10, 2) := decs_at DX12_cut_48 21 rfl
theorem dX12_cut_135 : decode cX12_cut 135 = .ok (.iload 10, 2) := decs_at DX12_cut_48 22 rfl
theorem dX12_cut_137 : decode cX12_cut 137 = .ok (.aload_n 0, 1) := decs_at DX12_cut_48 23 rfl
theorem DX12_cut_72 : decs cX12_cut [(138, .getfield 16, 3), (141, .if_icmp .gt 48, 3), (144, .iload 5, 2), (146, .iload 10, 2), (148, .ishr, 1), (149, .iconst 1, 1), (150, .iand, 1), (151, .ifCond .ne 6, 3), (154, .goto 29, 3), (157, .aload_n 0, 1), (158, .getfield 38, 3), (161, .iload 10, 2), (163, .iload 7, 2), (165, .iload 10, 2), (167, .ishr, 1), (168, .iconst 1, 1), (169, .iand, 1), (170, .iastore, 1), (171, .iload 9, 2), (173, .aload_n 0, 1), (174, .getfield 38, 3), (177, .iload 10, 2), (179, .iaload, 1), (180, .iadd, 1)] := by unfold decs; decide +kernel
theorem dX12_cut_138 : decode cX12_cut 138 = .ok (.getfield 16, 3) := decs_at DX12_cut_72 0 rfl
theorem dX12_cut_141 : decode cX12_cut 141 = .ok (.if_icmp .gt 48, 3) := decs_at DX12_cut_72 1 rfl
theorem dX12_cut_144 : decode cX12_cut 144 = .ok (.iload 5, 2) := decs_at DX12_cut_72 2 rfl
theorem dX12_cut_146 : decode cX12_cut 146 = .ok (.iload 10, 2) := decs_at DX12_cut_72 3 rfl
theorem dX12_cut_148 : decode cX12_cut 148 = .ok (.ishr, 1) := decs_at DX12_cut_72 4 rfl
theorem dX12_cut_149 : decode cX12_cut 149 = .ok (.iconst 1, 1) := decs_at DX12_cut_72 5 rfl
theorem dX12_cut_150 : decode cX12_cut 150 = .ok (.iand, 1) := decs_at DX12_cut_72 6 rfl
theorem dX12_cut_151 : decode cX12_cut 151 = .ok (.ifCond .ne 6, 3) := decs_at DX12_cut_72 7 rfl
theorem dX12_cut_154 : decode cX12_cut 154 = .ok (.goto 29, 3) := decs_at DX12_cut_72 8 rfl
theorem dX12_cut_157 : decode cX12_cut 157 = .ok (.aload_n 0, 1) := decs_at DX12_cut_72 9 rfl
theorem dX12_cut_158 : decode cX12_cut 158 = .ok (.getfield 38, 3) := decs_at DX12_cut_72 10 rfl
theorem dX12_cut_161 : decode cX12_cut 161 = .ok (.iload 10, 2) := decs_at DX12_cut_72 11 rfl
theorem dX12_cut_163 : decode cX12_cut 163 = .ok (.iload 7, 2) := decs_at DX12_cut_72 12 rfl
theorem dX12_cut_165 : decode cX12_cut 165 = .ok (.iload 10, 2) := decs_at DX12_cut_72 13 rfl
theorem dX12_cut_167 : decode cX12_cut 167 = .ok (.ishr, 1) := decs_at DX12_cut_72 14 rfl
theorem dX12_cut_168 : decode cX12_cut 168 = .ok (.iconst 1, 1) := decs_at DX12_cut_72 15 rfl
theorem dX12_cut_169 : decode cX12_cut 169 = .ok (.iand, 1) := decs_at DX12_cut_72 16 rfl
theorem dX12_cut_170 : decode cX12_cut 170 = .ok (.iastore, 1) := decs_at DX12_cut_72 17 rfl
theorem dX12_cut_171 : decode cX12_cut 171 = .ok (.iload 9, 2) := decs_at DX12_cut_72 18 rfl
theorem dX12_cut_173 : decode cX12_cut 173 = .ok (.aload_n 0, 1) := decs_at DX12_cut_72 19 rfl
theorem dX12_cut_174 : decode cX12_cut 174 = .ok (.getfield 38, 3) := decs_at DX12_cut_72 20 rfl
theorem dX12_cut_177 : decode cX12_cut 177 = .ok (.iload 10, 2) := decs_at DX12_cut_72 21 rfl
theorem dX12_cut_179 : decode cX12_cut 179 = .ok (.iaload, 1) := decs_at DX12_cut_72 22 rfl
theorem dX12_cut_180 : decode cX12_cut 180 = .ok (.iadd, 1) := decs_at DX12_cut_72 23 rfl
theorem DX12_cut_96 : decs cX12_cut [(181, .istore 9, 2), (183, .iinc 10 1, 3), (186, .goto (-51), 3), (189, .aload_n 0, 1), (190, .getfield 74, 3), (193, .iload 9, 2), (195, .baload, 1), (196, .ifCond .ne 26, 3), (199, .aload_n 0, 1), (200, .iload_n 1, 1), (201, .iload_n 2, 1), (202, .iload_n 3, 1), (203, .invokevirtual 302, 3), (206, .iload 4, 2), (208, .invokestatic 318, 3), (211, .ifCond .ne 11, 3), (214, .aload_n 0, 1), (215, .getfield 74, 3), (218, .iload 9, 2), (220, .iconst 1, 1), (221, .bastore, 1), (222, .iload 7, 2), (224, .ifCond .le 7, 3), (227, .iconst 1, 1)] := by unfold decs; decide +kernel
theorem dX12_cut_181 : decode cX12_cut 181 = .ok (.istore 9, 2) := decs_at DX12_cut_96 0 rfl
theorem dX12_cut_183 : decode cX12_cut 183 = .ok (.iinc 10 1, 3) := decs_at DX12_cut_96 1 rfl
theorem dX12_cut_186 : decode cX12_cut 186 = .ok (.goto (-51), 3) := decs_at DX12_cut_96 2 rfl
theorem dX12_cut_189 : decode cX12_cut 189 = .ok (.aload_n 0, 1) := decs_at DX12_cut_96 3 rfl
theorem dX12_cut_190 : decode cX12_cut 190 = .ok (.getfield 74, 3) := decs_at DX12_cut_96 4 rfl
theorem dX12_cut_193 : decode cX12_cut 193 = .ok (.iload 9, 2) := decs_at DX12_cut_96 5 rfl
theorem dX12_cut_195 : decode cX12_cut 195 = .ok (.baload, 1) := decs_at DX12_cut_96 6 rfl
theorem dX12_cut_196 : decode cX12_cut 196 = .ok (.ifCond .ne 26, 3) := decs_at DX12_cut_96 7 rfl
theorem dX12_cut_199 : decode cX12_cut 199 = .ok (.aload_n 0, 1) := decs_at DX12_cut_96 8 rfl
theorem dX12_cut_200 : decode cX12_cut 200 = .ok (.iload_n 1, 1) := decs_at DX12_cut_96 9 rfl
theorem dX12_cut_201 : decode cX12_cut 201 = .ok (.iload_n 2, 1) := decs_at DX12_cut_96 10 rfl
theorem dX12_cut_202 : decode cX12_cut 202 = .ok (.iload_n 3, 1) := decs_at DX12_cut_96 11 rfl
theorem dX12_cut_203 : decode cX12_cut 203 = .ok (.invokevirtual 302, 3) := decs_at DX12_cut_96 12 rfl
theorem dX12_cut_206 : decode cX12_cut 206 = .ok (.iload 4, 2) := decs_at DX12_cut_96 13 rfl
theorem dX12_cut_208 : decode cX12_cut 208 = .ok (.invokestatic 318, 3) := decs_at DX12_cut_96 14 rfl
theorem dX12_cut_211 : decode cX12_cut 211 = .ok (.ifCond .ne 11, 3) := decs_at DX12_cut_96 15 rfl
theorem dX12_cut_214 : decode cX12_cut 214 = .ok (.aload_n 0, 1) := decs_at DX12_cut_96 16 rfl
theorem dX12_cut_215 : decode cX12_cut 215 = .ok (.getfield 74, 3) := decs_at DX12_cut_96 17 rfl
theorem dX12_cut_218 : decode cX12_cut 218 = .ok (.iload 9, 2) := decs_at DX12_cut_96 18 rfl
theorem dX12_cut_220 : decode cX12_cut 220 = .ok (.iconst 1, 1) := decs_at DX12_cut_96 19 rfl
theorem dX12_cut_221 : decode cX12_cut 221 = .ok (.bastore, 1) := decs_at DX12_cut_96 20 rfl
theorem dX12_cut_222 : decode cX12_cut 222 = .ok (.iload 7, 2) := decs_at DX12_cut_96 21 rfl
theorem dX12_cut_224 : decode cX12_cut 224 = .ok (.ifCond .le 7, 3) := decs_at DX12_cut_96 22 rfl
theorem dX12_cut_227 : decode cX12_cut 227 = .ok (.iconst 1, 1) := decs_at DX12_cut_96 23 rfl
theorem DX12_cut_120 : decs cX12_cut [(228, .goto 4, 3), (231, .iconst 0, 1), (232, .istore 8, 2), (234, .iload 7, 2), (236, .iconst 1, 1), (237, .isub, 1), (238, .iload 5, 2), (240, .iand, 1), (241, .istore 7, 2), (243, .goto (-119), 3), (246, .iload 6, 2), (248, .istore 9, 2), (250, .iload 9, 2), (252, .ifCond .lt 22, 3), (255, .aload_n 0, 1), (256, .getfield 74, 3), (259, .iload 9, 2), (261, .baload, 1), (262, .ifCond .ne 6, 3), (265, .iload 9, 2), (267, .ireturn, 1), (268, .iinc 9 (-1), 3), (271, .goto (-21), 3), (274, .iconst (-1), 1)] := by unfold decs; decide +kernel
theorem dX12_cut_228 : decode cX12_cut 228 = .ok (.goto 4, 3) := decs_at DX12_cut_120 0 rfl
theorem dX12_cut_231 : decode cX12_cut 231 = .ok (.iconst 0, 1) := decs_at DX12_cut_120 1 rfl
theorem dX12_cut_232 : decode cX12_cut 232 = .ok (.istore 8, 2) := decs_at DX12_cut_120 2 rfl
theorem dX12_cut_234 : decode cX12_cut 234 = .ok (.iload 7, 2) := decs_at DX12_cut_120 3 rfl
theorem dX12_cut_236 : decode cX12_cut 236 = .ok (.iconst 1, 1) := decs_at DX12_cut_120 4 rfl
theorem dX12_cut_237 : decode cX12_cut 237 = .ok (.isub, 1) := decs_at DX12_cut_120 5 rfl
theorem dX12_cut_238 : decode cX12_cut 238 = .ok (.iload 5, 2) := decs_at DX12_cut_120 6 rfl
theorem dX12_cut_240 : decode cX12_cut 240 = .ok (.iand, 1) := decs_at DX12_cut_120 7 rfl
theorem dX12_cut_241 : decode cX12_cut 241 = .ok (.istore 7, 2) := decs_at DX12_cut_120 8 rfl
theorem dX12_cut_243 : decode cX12_cut 243 = .ok (.goto (-119), 3) := decs_at DX12_cut_120 9 rfl
theorem dX12_cut_246 : decode cX12_cut 246 = .ok (.iload 6, 2) := decs_at DX12_cut_120 10 rfl
theorem dX12_cut_248 : decode cX12_cut 248 = .ok (.istore 9, 2) := decs_at DX12_cut_120 11 rfl
theorem dX12_cut_250 : decode cX12_cut 250 = .ok (.iload 9, 2) := decs_at DX12_cut_120 12 rfl
theorem dX12_cut_252 : decode cX12_cut 252 = .ok (.ifCond .lt 22, 3) := decs_at DX12_cut_120 13 rfl
theorem dX12_cut_255 : decode cX12_cut 255 = .ok (.aload_n 0, 1) := decs_at DX12_cut_120 14 rfl
theorem dX12_cut_256 : decode cX12_cut 256 = .ok (.getfield 74, 3) := decs_at DX12_cut_120 15 rfl
theorem dX12_cut_259 : decode cX12_cut 259 = .ok (.iload 9, 2) := decs_at DX12_cut_120 16 rfl
theorem dX12_cut_261 : decode cX12_cut 261 = .ok (.baload, 1) := decs_at DX12_cut_120 17 rfl
theorem dX12_cut_262 : decode cX12_cut 262 = .ok (.ifCond .ne 6, 3) := decs_at DX12_cut_120 18 rfl
theorem dX12_cut_265 : decode cX12_cut 265 = .ok (.iload 9, 2) := decs_at DX12_cut_120 19 rfl
theorem dX12_cut_267 : decode cX12_cut 267 = .ok (.ireturn, 1) := decs_at DX12_cut_120 20 rfl
theorem dX12_cut_268 : decode cX12_cut 268 = .ok (.iinc 9 (-1), 3) := decs_at DX12_cut_120 21 rfl
theorem dX12_cut_271 : decode cX12_cut 271 = .ok (.goto (-21), 3) := decs_at DX12_cut_120 22 rfl
theorem dX12_cut_274 : decode cX12_cut 274 = .ok (.iconst (-1), 1) := decs_at DX12_cut_120 23 rfl
theorem DX12_cut_144 : decs cX12_cut [(275, .ireturn, 1)] := by unfold decs; decide +kernel
theorem dX12_cut_275 : decode cX12_cut 275 = .ok (.ireturn, 1) := decs_at DX12_cut_144 0 rfl
theorem DX12_guess_0 : decs cX12_guess [(0, .aload_n 0, 1), (1, .aload_n 0, 1), (2, .getfield 65, 3), (5, .invokevirtual 284, 3), (8, .iload_n 1, 1), (9, .ifCond .ne 4, 3), (12, .return_, 1), (13, .iload_n 1, 1), (14, .bipush 10, 2), (16, .idiv, 1), (17, .istore_n 2, 1), (18, .iload_n 1, 1), (19, .bipush 10, 2), (21, .irem, 1), (22, .istore_n 3, 1), (23, .iload_n 3, 1), (24, .iconst 3, 1), (25, .if_icmp .ge 33, 3), (28, .aload_n 0, 1), (29, .getfield 44, 3), (32, .iload_n 2, 1), (33, .iload_n 3, 1), (34, .ifCond .ne 8, 3), (37, .bipush 10, 2)] := by unfold decs; decide +kernel
theorem dX12_guess_0 : decode cX12_guess 0 = .ok (.aload_n 0, 1) := decs_at DX12_guess_0 0 rfl
theorem dX12_guess_1 : decode cX12_guess 1 = .ok (.aload_n 0, 1) := decs_at DX12_guess_0 1 rfl
theorem dX12_guess_2 : decode cX12_guess 2 = .ok (.getfield 65, 3) := decs_at DX12_guess_0 2 rfl
theorem dX12_guess_5 : decode cX12_guess 5 = .ok (.invokevirtual 284, 3) := decs_at DX12_guess_0 3 rfl
theorem dX12_guess_8 : decode cX12_guess 8 = .ok (.iload_n 1, 1) := decs_at DX12_guess_0 4 rfl
theorem dX12_guess_9 : decode cX12_guess 9 = .ok (.ifCond .ne 4, 3) := decs_at DX12_guess_0 5 rfl
theorem dX12_guess_12 : decode cX12_guess 12 = .ok (.return_, 1) := decs_at DX12_guess_0 6 rfl
theorem dX12_guess_13 : decode cX12_guess 13 = .ok (.iload_n 1, 1) := decs_at DX12_guess_0 7 rfl
theorem dX12_guess_14 : decode cX12_guess 14 = .ok (.bipush 10, 2) := decs_at DX12_guess_0 8 rfl
theorem dX12_guess_16 : decode cX12_guess 16 = .ok (.idiv, 1) := decs_at DX12_guess_0 9 rfl
theorem dX12_guess_17 : decode cX12_guess 17 = .ok (.istore_n 2, 1) := decs_at DX12_guess_0 10 rfl
theorem dX12_guess_18 : decode cX12_guess 18 = .ok (.iload_n 1, 1) := decs_at DX12_guess_0 11 rfl
theorem dX12_guess_19 : decode cX12_guess 19 = .ok (.bipush 10, 2) := decs_at DX12_guess_0 12 rfl
theorem dX12_guess_21 : decode cX12_guess 21 = .ok (.irem, 1) := decs_at DX12_guess_0 13 rfl
theorem dX12_guess_22 : decode cX12_guess 22 = .ok (.istore_n 3, 1) := decs_at DX12_guess_0 14 rfl
theorem dX12_guess_23 : decode cX12_guess 23 = .ok (.iload_n 3, 1) := decs_at DX12_guess_0 15 rfl
theorem dX12_guess_24 : decode cX12_guess 24 = .ok (.iconst 3, 1) := decs_at DX12_guess_0 16 rfl
theorem dX12_guess_25 : decode cX12_guess 25 = .ok (.if_icmp .ge 33, 3) := decs_at DX12_guess_0 17 rfl
theorem dX12_guess_28 : decode cX12_guess 28 = .ok (.aload_n 0, 1) := decs_at DX12_guess_0 18 rfl
theorem dX12_guess_29 : decode cX12_guess 29 = .ok (.getfield 44, 3) := decs_at DX12_guess_0 19 rfl
theorem dX12_guess_32 : decode cX12_guess 32 = .ok (.iload_n 2, 1) := decs_at DX12_guess_0 20 rfl
theorem dX12_guess_33 : decode cX12_guess 33 = .ok (.iload_n 3, 1) := decs_at DX12_guess_0 21 rfl
theorem dX12_guess_34 : decode cX12_guess 34 = .ok (.ifCond .ne 8, 3) := decs_at DX12_guess_0 22 rfl
theorem dX12_guess_37 : decode cX12_guess 37 = .ok (.bipush 10, 2) := decs_at DX12_guess_0 23 rfl
theorem DX12_guess_24 : decs cX12_guess [(39, .goto 15, 3), (42, .iload_n 3, 1), (43, .iconst 1, 1), (44, .if_icmp .ne 8, 3), (47, .bipush 20, 2), (49, .goto 5, 3), (52, .bipush 40, 2), (54, .iastore, 1), (55, .goto 45, 3), (58, .iload_n 3, 1), (59, .iconst 5, 1), (60, .if_icmp .ge 24, 3), (63, .aload_n 0, 1), (64, .getfield 47, 3), (67, .iload_n 2, 1), (68, .iload_n 3, 1), (69, .iconst 3, 1), (70, .if_icmp .ne 8, 3), (73, .bipush 10, 2), (75, .goto 5, 3), (78, .bipush 30, 2), (80, .iastore, 1), (81, .goto 19, 3), (84, .aload_n 0, 1)] := by unfold decs; decide +kernel
theorem dX12_guess_39 : decode cX12_guess 39 = .ok (.goto 15, 3) := decs_at DX12_guess_24 0 rfl
theorem dX12_guess_42 : decode cX12_guess 42 = .ok (.iload_n 3, 1) := decs_at DX12_guess_24 1 rfl
theorem dX12_guess_43 : decode cX12_guess 43 = .ok (.iconst 1, 1) := decs_at DX12_guess_24 2 rfl
theorem dX12_guess_44 : decode cX12_guess 44 = .ok (.if_icmp .ne 8, 3) := decs_at DX12_guess_24 3 rfl
theorem dX12_guess_47 : decode cX12_guess 47 = .ok (.bipush 20, 2) := decs_at DX12_guess_24 4 rfl
theorem dX12_guess_49 : decode cX12_guess 49 = .ok (.goto 5, 3) := decs_at DX12_guess_24 5 rfl
theorem dX12_guess_52 : decode cX12_guess 52 = .ok (.bipush 40, 2) := decs_at DX12_guess_24 6 rfl
theorem dX12_guess_54 : decode cX12_guess 54 = .ok (.iastore, 1) := decs_at DX12_guess_24 7 rfl
theorem dX12_guess_55 : decode cX12_guess 55 = .ok (.goto 45, 3) := decs_at DX12_guess_24 8 rfl
theorem dX12_guess_58 : decode cX12_guess 58 = .ok (.iload_n 3, 1) := decs_at DX12_guess_24 9 rfl
theorem dX12_guess_59 : decode cX12_guess 59 = .ok (.iconst 5, 1) := decs_at DX12_guess_24 10 rfl
theorem dX12_guess_60 : decode cX12_guess 60 = .ok (.if_icmp .ge 24, 3) := decs_at DX12_guess_24 11 rfl
theorem dX12_guess_63 : decode cX12_guess 63 = .ok (.aload_n 0, 1) := decs_at DX12_guess_24 12 rfl
theorem dX12_guess_64 : decode cX12_guess 64 = .ok (.getfield 47, 3) := decs_at DX12_guess_24 13 rfl
theorem dX12_guess_67 : decode cX12_guess 67 = .ok (.iload_n 2, 1) := decs_at DX12_guess_24 14 rfl
theorem dX12_guess_68 : decode cX12_guess 68 = .ok (.iload_n 3, 1) := decs_at DX12_guess_24 15 rfl
theorem dX12_guess_69 : decode cX12_guess 69 = .ok (.iconst 3, 1) := decs_at DX12_guess_24 16 rfl
theorem dX12_guess_70 : decode cX12_guess 70 = .ok (.if_icmp .ne 8, 3) := decs_at DX12_guess_24 17 rfl
theorem dX12_guess_73 : decode cX12_guess 73 = .ok (.bipush 10, 2) := decs_at DX12_guess_24 18 rfl
theorem dX12_guess_75 : decode cX12_guess 75 = .ok (.goto 5, 3) := decs_at DX12_guess_24 19 rfl
theorem dX12_guess_78 : decode cX12_guess 78 = .ok (.bipush 30, 2) := decs_at DX12_guess_24 20 rfl
theorem dX12_guess_80 : decode cX12_guess 80 = .ok (.iastore, 1) := decs_at DX12_guess_24 21 rfl
theorem dX12_guess_81 : decode cX12_guess 81 = .ok (.goto 19, 3) := decs_at DX12_guess_24 22 rfl
theorem dX12_guess_84 : decode cX12_guess 84 = .ok (.aload_n 0, 1) := decs_at DX12_guess_24 23 rfl
theorem DX12_guess_48 : decs cX12_guess [(85, .getfield 50, 3), (88, .iload_n 2, 1), (89, .iload_n 3, 1), (90, .iconst 5, 1), (91, .if_icmp .ne 7, 3), (94, .iconst 1, 1), (95, .goto 4, 3), (98, .iconst 2, 1), (99, .iastore, 1), (100, .return_, 1)] := by unfold decs; decide +kernel
theorem dX12_guess_85 : decode cX12_guess 85 = .ok (.getfield 50, 3) := decs_at DX12_guess_48 0 rfl
theorem dX12_guess_88 : decode cX12_guess 88 = .ok (.iload_n 2, 1) := decs_at DX12_guess_48 1 rfl
theorem dX12_guess_89 : decode cX12_guess 89 = .ok (.iload_n 3, 1) := decs_at DX12_guess_48 2 rfl
theorem dX12_guess_90 : decode cX12_guess 90 = .ok (.iconst 5, 1) := decs_at DX12_guess_48 3 rfl
theorem dX12_guess_91 : decode cX12_guess 91 = .ok (.if_icmp .ne 7, 3) := decs_at DX12_guess_48 4 rfl
theorem dX12_guess_94 : decode cX12_guess 94 = .ok (.iconst 1, 1) := decs_at DX12_guess_48 5 rfl
theorem dX12_guess_95 : decode cX12_guess 95 = .ok (.goto 4, 3) := decs_at DX12_guess_48 6 rfl
theorem dX12_guess_98 : decode cX12_guess 98 = .ok (.iconst 2, 1) := decs_at DX12_guess_48 7 rfl
theorem dX12_guess_99 : decode cX12_guess 99 = .ok (.iastore, 1) := decs_at DX12_guess_48 8 rfl
theorem dX12_guess_100 : decode cX12_guess 100 = .ok (.return_, 1) := decs_at DX12_guess_48 9 rfl
theorem DX12_hotNow_0 : decs cX12_hotNow [(0, .iconst 0, 1), (1, .istore_n 1, 1), (2, .iconst 1, 1), (3, .istore_n 2, 1), (4, .iload_n 2, 1), (5, .aload_n 0, 1), (6, .getfield 16, 3), (9, .if_icmp .gt 28, 3), (12, .aload_n 0, 1), (13, .getfield 59, 3), (16, .iload_n 2, 1), (17, .iaload, 1), (18, .bipush 100, 2), (20, .if_icmp .lt 11, 3), (23, .iload_n 1, 1), (24, .iconst 1, 1), (25, .iload_n 2, 1), (26, .iconst 1, 1), (27, .isub, 1), (28, .ishl, 1), (29, .ior, 1), (30, .istore_n 1, 1), (31, .iinc 2 1, 3), (34, .goto (-30), 3)] := by unfold decs; decide +kernel
theorem dX12_hotNow_0 : decode cX12_hotNow 0 = .ok (.iconst 0, 1) := decs_at DX12_hotNow_0 0 rfl
theorem dX12_hotNow_1 : decode cX12_hotNow 1 = .ok (.istore_n 1, 1) := decs_at DX12_hotNow_0 1 rfl
theorem dX12_hotNow_2 : decode cX12_hotNow 2 = .ok (.iconst 1, 1) := decs_at DX12_hotNow_0 2 rfl
theorem dX12_hotNow_3 : decode cX12_hotNow 3 = .ok (.istore_n 2, 1) := decs_at DX12_hotNow_0 3 rfl
theorem dX12_hotNow_4 : decode cX12_hotNow 4 = .ok (.iload_n 2, 1) := decs_at DX12_hotNow_0 4 rfl
theorem dX12_hotNow_5 : decode cX12_hotNow 5 = .ok (.aload_n 0, 1) := decs_at DX12_hotNow_0 5 rfl
theorem dX12_hotNow_6 : decode cX12_hotNow 6 = .ok (.getfield 16, 3) := decs_at DX12_hotNow_0 6 rfl
theorem dX12_hotNow_9 : decode cX12_hotNow 9 = .ok (.if_icmp .gt 28, 3) := decs_at DX12_hotNow_0 7 rfl
theorem dX12_hotNow_12 : decode cX12_hotNow 12 = .ok (.aload_n 0, 1) := decs_at DX12_hotNow_0 8 rfl
theorem dX12_hotNow_13 : decode cX12_hotNow 13 = .ok (.getfield 59, 3) := decs_at DX12_hotNow_0 9 rfl
theorem dX12_hotNow_16 : decode cX12_hotNow 16 = .ok (.iload_n 2, 1) := decs_at DX12_hotNow_0 10 rfl
theorem dX12_hotNow_17 : decode cX12_hotNow 17 = .ok (.iaload, 1) := decs_at DX12_hotNow_0 11 rfl
theorem dX12_hotNow_18 : decode cX12_hotNow 18 = .ok (.bipush 100, 2) := decs_at DX12_hotNow_0 12 rfl
theorem dX12_hotNow_20 : decode cX12_hotNow 20 = .ok (.if_icmp .lt 11, 3) := decs_at DX12_hotNow_0 13 rfl
theorem dX12_hotNow_23 : decode cX12_hotNow 23 = .ok (.iload_n 1, 1) := decs_at DX12_hotNow_0 14 rfl
theorem dX12_hotNow_24 : decode cX12_hotNow 24 = .ok (.iconst 1, 1) := decs_at DX12_hotNow_0 15 rfl
theorem dX12_hotNow_25 : decode cX12_hotNow 25 = .ok (.iload_n 2, 1) := decs_at DX12_hotNow_0 16 rfl
theorem dX12_hotNow_26 : decode cX12_hotNow 26 = .ok (.iconst 1, 1) := decs_at DX12_hotNow_0 17 rfl
theorem dX12_hotNow_27 : decode cX12_hotNow 27 = .ok (.isub, 1) := decs_at DX12_hotNow_0 18 rfl
theorem dX12_hotNow_28 : decode cX12_hotNow 28 = .ok (.ishl, 1) := decs_at DX12_hotNow_0 19 rfl
theorem dX12_hotNow_29 : decode cX12_hotNow 29 = .ok (.ior, 1) := decs_at DX12_hotNow_0 20 rfl
theorem dX12_hotNow_30 : decode cX12_hotNow 30 = .ok (.istore_n 1, 1) := decs_at DX12_hotNow_0 21 rfl
theorem dX12_hotNow_31 : decode cX12_hotNow 31 = .ok (.iinc 2 1, 3) := decs_at DX12_hotNow_0 22 rfl
theorem dX12_hotNow_34 : decode cX12_hotNow 34 = .ok (.goto (-30), 3) := decs_at DX12_hotNow_0 23 rfl
theorem DX12_hotNow_24 : decs cX12_hotNow [(37, .iload_n 1, 1), (38, .ireturn, 1)] := by unfold decs; decide +kernel
theorem dX12_hotNow_37 : decode cX12_hotNow 37 = .ok (.iload_n 1, 1) := decs_at DX12_hotNow_24 0 rfl
theorem dX12_hotNow_38 : decode cX12_hotNow 38 = .ok (.ireturn, 1) := decs_at DX12_hotNow_24 1 rfl
theorem DX12_isNear_0 : decs cX12_isNear [(0, .iload_n 0, 1), (1, .iload_n 1, 1), (2, .isub, 1), (3, .iload_n 2, 1), (4, .if_icmp .gt 14, 3), (7, .iload_n 1, 1), (8, .iload_n 0, 1), (9, .isub, 1), (10, .iload_n 2, 1), (11, .if_icmp .gt 7, 3), (14, .iconst 1, 1), (15, .goto 4, 3), (18, .iconst 0, 1), (19, .ireturn, 1)] := by unfold decs; decide +kernel
theorem dX12_isNear_0 : decode cX12_isNear 0 = .ok (.iload_n 0, 1) := decs_at DX12_isNear_0 0 rfl
theorem dX12_isNear_1 : decode cX12_isNear 1 = .ok (.iload_n 1, 1) := decs_at DX12_isNear_0 1 rfl
theorem dX12_isNear_2 : decode cX12_isNear 2 = .ok (.isub, 1) := decs_at DX12_isNear_0 2 rfl
theorem dX12_isNear_3 : decode cX12_isNear 3 = .ok (.iload_n 2, 1) := decs_at DX12_isNear_0 3 rfl
theorem dX12_isNear_4 : decode cX12_isNear 4 = .ok (.if_icmp .gt 14, 3) := decs_at DX12_isNear_0 4 rfl
theorem dX12_isNear_7 : decode cX12_isNear 7 = .ok (.iload_n 1, 1) := decs_at DX12_isNear_0 5 rfl
theorem dX12_isNear_8 : decode cX12_isNear 8 = .ok (.iload_n 0, 1) := decs_at DX12_isNear_0 6 rfl
theorem dX12_isNear_9 : decode cX12_isNear 9 = .ok (.isub, 1) := decs_at DX12_isNear_0 7 rfl
theorem dX12_isNear_10 : decode cX12_isNear 10 = .ok (.iload_n 2, 1) := decs_at DX12_isNear_0 8 rfl
theorem dX12_isNear_11 : decode cX12_isNear 11 = .ok (.if_icmp .gt 7, 3) := decs_at DX12_isNear_0 9 rfl
theorem dX12_isNear_14 : decode cX12_isNear 14 = .ok (.iconst 1, 1) := decs_at DX12_isNear_0 10 rfl
theorem dX12_isNear_15 : decode cX12_isNear 15 = .ok (.goto 4, 3) := decs_at DX12_isNear_0 11 rfl
theorem dX12_isNear_18 : decode cX12_isNear 18 = .ok (.iconst 0, 1) := decs_at DX12_isNear_0 12 rfl
theorem dX12_isNear_19 : decode cX12_isNear 19 = .ok (.ireturn, 1) := decs_at DX12_isNear_0 13 rfl
theorem DX12_fitsGauges_0 : decs cX12_fitsGauges [(0, .iconst 0, 1), (1, .istore_n 3, 1), (2, .iconst 0, 1), (3, .istore 4, 2), (5, .iload 4, 2), (7, .aload_n 0, 1), (8, .getfield 332, 3), (11, .if_icmp .ge 28, 3), (14, .aload_n 0, 1), (15, .getfield 78, 3), (18, .iload 4, 2), (20, .iaload, 1), (21, .iload_n 3, 1), (22, .if_icmp .le 11, 3), (25, .aload_n 0, 1), (26, .getfield 78, 3), (29, .iload 4, 2), (31, .iaload, 1), (32, .istore_n 3, 1), (33, .iinc 4 1, 3), (36, .goto (-31), 3), (39, .aload_n 0, 1), (40, .invokevirtual 278, 3), (43, .iconst 1, 1)] := by unfold decs; decide +kernel
theorem dX12_fitsGauges_0 : decode cX12_fitsGauges 0 = .ok (.iconst 0, 1) := decs_at DX12_fitsGauges_0 0 rfl
theorem dX12_fitsGauges_1 : decode cX12_fitsGauges 1 = .ok (.istore_n 3, 1) := decs_at DX12_fitsGauges_0 1 rfl
theorem dX12_fitsGauges_2 : decode cX12_fitsGauges 2 = .ok (.iconst 0, 1) := decs_at DX12_fitsGauges_0 2 rfl
theorem dX12_fitsGauges_3 : decode cX12_fitsGauges 3 = .ok (.istore 4, 2) := decs_at DX12_fitsGauges_0 3 rfl
theorem dX12_fitsGauges_5 : decode cX12_fitsGauges 5 = .ok (.iload 4, 2) := decs_at DX12_fitsGauges_0 4 rfl
theorem dX12_fitsGauges_7 : decode cX12_fitsGauges 7 = .ok (.aload_n 0, 1) := decs_at DX12_fitsGauges_0 5 rfl
theorem dX12_fitsGauges_8 : decode cX12_fitsGauges 8 = .ok (.getfield 332, 3) := decs_at DX12_fitsGauges_0 6 rfl
theorem dX12_fitsGauges_11 : decode cX12_fitsGauges 11 = .ok (.if_icmp .ge 28, 3) := decs_at DX12_fitsGauges_0 7 rfl
theorem dX12_fitsGauges_14 : decode cX12_fitsGauges 14 = .ok (.aload_n 0, 1) := decs_at DX12_fitsGauges_0 8 rfl
theorem dX12_fitsGauges_15 : decode cX12_fitsGauges 15 = .ok (.getfield 78, 3) := decs_at DX12_fitsGauges_0 9 rfl
theorem dX12_fitsGauges_18 : decode cX12_fitsGauges 18 = .ok (.iload 4, 2) := decs_at DX12_fitsGauges_0 10 rfl
theorem dX12_fitsGauges_20 : decode cX12_fitsGauges 20 = .ok (.iaload, 1) := decs_at DX12_fitsGauges_0 11 rfl
theorem dX12_fitsGauges_21 : decode cX12_fitsGauges 21 = .ok (.iload_n 3, 1) := decs_at DX12_fitsGauges_0 12 rfl
theorem dX12_fitsGauges_22 : decode cX12_fitsGauges 22 = .ok (.if_icmp .le 11, 3) := decs_at DX12_fitsGauges_0 13 rfl
theorem dX12_fitsGauges_25 : decode cX12_fitsGauges 25 = .ok (.aload_n 0, 1) := decs_at DX12_fitsGauges_0 14 rfl
theorem dX12_fitsGauges_26 : decode cX12_fitsGauges 26 = .ok (.getfield 78, 3) := decs_at DX12_fitsGauges_0 15 rfl
theorem dX12_fitsGauges_29 : decode cX12_fitsGauges 29 = .ok (.iload 4, 2) := decs_at DX12_fitsGauges_0 16 rfl
theorem dX12_fitsGauges_31 : decode cX12_fitsGauges 31 = .ok (.iaload, 1) := decs_at DX12_fitsGauges_0 17 rfl
theorem dX12_fitsGauges_32 : decode cX12_fitsGauges 32 = .ok (.istore_n 3, 1) := decs_at DX12_fitsGauges_0 18 rfl
theorem dX12_fitsGauges_33 : decode cX12_fitsGauges 33 = .ok (.iinc 4 1, 3) := decs_at DX12_fitsGauges_0 19 rfl
theorem dX12_fitsGauges_36 : decode cX12_fitsGauges 36 = .ok (.goto (-31), 3) := decs_at DX12_fitsGauges_0 20 rfl
theorem dX12_fitsGauges_39 : decode cX12_fitsGauges 39 = .ok (.aload_n 0, 1) := decs_at DX12_fitsGauges_0 21 rfl
theorem dX12_fitsGauges_40 : decode cX12_fitsGauges 40 = .ok (.invokevirtual 278, 3) := decs_at DX12_fitsGauges_0 22 rfl
theorem dX12_fitsGauges_43 : decode cX12_fitsGauges 43 = .ok (.iconst 1, 1) := decs_at DX12_fitsGauges_0 23 rfl
theorem DX12_fitsGauges_24 : decs cX12_fitsGauges [(44, .istore 4, 2), (46, .iload 4, 2), (48, .iload_n 3, 1), (49, .if_icmp .gt 90, 3), (52, .aload_n 0, 1), (53, .iload 4, 2), (55, .invokevirtual 281, 3), (58, .iconst 0, 1), (59, .istore 5, 2), (61, .iload 5, 2), (63, .aload_n 0, 1), (64, .getfield 332, 3), (67, .if_icmp .ge 66, 3), (70, .aload_n 0, 1), (71, .getfield 78, 3), (74, .iload 5, 2), (76, .iaload, 1), (77, .iload 4, 2), (79, .if_icmp .ne 48, 3), (82, .aload_n 0, 1), (83, .getfield 53, 3), (86, .iconst 0, 1), (87, .iaload, 1), (88, .aload_n 0, 1)] := by unfold decs; decide +kernel
theorem dX12_fitsGauges_44 : decode cX12_fitsGauges 44 = .ok (.istore 4, 2) := decs_at DX12_fitsGauges_24 0 rfl
theorem dX12_fitsGauges_46 : decode cX12_fitsGauges 46 = .ok (.iload 4, 2) := decs_at DX12_fitsGauges_24 1 rfl
theorem dX12_fitsGauges_48 : decode cX12_fitsGauges 48 = .ok (.iload_n 3, 1) := decs_at DX12_fitsGauges_24 2 rfl
theorem dX12_fitsGauges_49 : decode cX12_fitsGauges 49 = .ok (.if_icmp .gt 90, 3) := decs_at DX12_fitsGauges_24 3 rfl
theorem dX12_fitsGauges_52 : decode cX12_fitsGauges 52 = .ok (.aload_n 0, 1) := decs_at DX12_fitsGauges_24 4 rfl
theorem dX12_fitsGauges_53 : decode cX12_fitsGauges 53 = .ok (.iload 4, 2) := decs_at DX12_fitsGauges_24 5 rfl
theorem dX12_fitsGauges_55 : decode cX12_fitsGauges 55 = .ok (.invokevirtual 281, 3) := decs_at DX12_fitsGauges_24 6 rfl
theorem dX12_fitsGauges_58 : decode cX12_fitsGauges 58 = .ok (.iconst 0, 1) := decs_at DX12_fitsGauges_24 7 rfl
theorem dX12_fitsGauges_59 : decode cX12_fitsGauges 59 = .ok (.istore 5, 2) := decs_at DX12_fitsGauges_24 8 rfl
theorem dX12_fitsGauges_61 : decode cX12_fitsGauges 61 = .ok (.iload 5, 2) := decs_at DX12_fitsGauges_24 9 rfl
theorem dX12_fitsGauges_63 : decode cX12_fitsGauges 63 = .ok (.aload_n 0, 1) := decs_at DX12_fitsGauges_24 10 rfl
theorem dX12_fitsGauges_64 : decode cX12_fitsGauges 64 = .ok (.getfield 332, 3) := decs_at DX12_fitsGauges_24 11 rfl
theorem dX12_fitsGauges_67 : decode cX12_fitsGauges 67 = .ok (.if_icmp .ge 66, 3) := decs_at DX12_fitsGauges_24 12 rfl
theorem dX12_fitsGauges_70 : decode cX12_fitsGauges 70 = .ok (.aload_n 0, 1) := decs_at DX12_fitsGauges_24 13 rfl
theorem dX12_fitsGauges_71 : decode cX12_fitsGauges 71 = .ok (.getfield 78, 3) := decs_at DX12_fitsGauges_24 14 rfl
theorem dX12_fitsGauges_74 : decode cX12_fitsGauges 74 = .ok (.iload 5, 2) := decs_at DX12_fitsGauges_24 15 rfl
theorem dX12_fitsGauges_76 : decode cX12_fitsGauges 76 = .ok (.iaload, 1) := decs_at DX12_fitsGauges_24 16 rfl
theorem dX12_fitsGauges_77 : decode cX12_fitsGauges 77 = .ok (.iload 4, 2) := decs_at DX12_fitsGauges_24 17 rfl
theorem dX12_fitsGauges_79 : decode cX12_fitsGauges 79 = .ok (.if_icmp .ne 48, 3) := decs_at DX12_fitsGauges_24 18 rfl
theorem dX12_fitsGauges_82 : decode cX12_fitsGauges 82 = .ok (.aload_n 0, 1) := decs_at DX12_fitsGauges_24 19 rfl
theorem dX12_fitsGauges_83 : decode cX12_fitsGauges 83 = .ok (.getfield 53, 3) := decs_at DX12_fitsGauges_24 20 rfl
theorem dX12_fitsGauges_86 : decode cX12_fitsGauges 86 = .ok (.iconst 0, 1) := decs_at DX12_fitsGauges_24 21 rfl
theorem dX12_fitsGauges_87 : decode cX12_fitsGauges 87 = .ok (.iaload, 1) := decs_at DX12_fitsGauges_24 22 rfl
theorem dX12_fitsGauges_88 : decode cX12_fitsGauges 88 = .ok (.aload_n 0, 1) := decs_at DX12_fitsGauges_24 23 rfl
theorem DX12_fitsGauges_48 : decs cX12_fitsGauges [(89, .getfield 81, 3), (92, .iload 5, 2), (94, .iaload, 1), (95, .iload_n 1, 1), (96, .invokestatic 335, 3), (99, .ifCond .eq 26, 3), (102, .aload_n 0, 1), (103, .getfield 53, 3), (106, .aload_n 0, 1), (107, .getfield 16, 3), (110, .iaload, 1), (111, .aload_n 0, 1), (112, .getfield 84, 3), (115, .iload 5, 2), (117, .iaload, 1), (118, .iload_n 1, 1), (119, .invokestatic 335, 3), (122, .ifCond .ne 5, 3), (125, .iconst 0, 1), (126, .ireturn, 1), (127, .iinc 5 1, 3), (130, .goto (-69), 3), (133, .iinc 4 1, 3), (136, .goto (-90), 3)] := by unfold decs; decide +kernel
theorem dX12_fitsGauges_89 : decode cX12_fitsGauges 89 = .ok (.getfield 81, 3) := decs_at DX12_fitsGauges_48 0 rfl
theorem dX12_fitsGauges_92 : decode cX12_fitsGauges 92 = .ok (.iload 5, 2) := decs_at DX12_fitsGauges_48 1 rfl
theorem dX12_fitsGauges_94 : decode cX12_fitsGauges 94 = .ok (.iaload, 1) := decs_at DX12_fitsGauges_48 2 rfl
theorem dX12_fitsGauges_95 : decode cX12_fitsGauges 95 = .ok (.iload_n 1, 1) := decs_at DX12_fitsGauges_48 3 rfl
theorem dX12_fitsGauges_96 : decode cX12_fitsGauges 96 = .ok (.invokestatic 335, 3) := decs_at DX12_fitsGauges_48 4 rfl
theorem dX12_fitsGauges_99 : decode cX12_fitsGauges 99 = .ok (.ifCond .eq 26, 3) := decs_at DX12_fitsGauges_48 5 rfl
theorem dX12_fitsGauges_102 : decode cX12_fitsGauges 102 = .ok (.aload_n 0, 1) := decs_at DX12_fitsGauges_48 6 rfl
theorem dX12_fitsGauges_103 : decode cX12_fitsGauges 103 = .ok (.getfield 53, 3) := decs_at DX12_fitsGauges_48 7 rfl
theorem dX12_fitsGauges_106 : decode cX12_fitsGauges 106 = .ok (.aload_n 0, 1) := decs_at DX12_fitsGauges_48 8 rfl
theorem dX12_fitsGauges_107 : decode cX12_fitsGauges 107 = .ok (.getfield 16, 3) := decs_at DX12_fitsGauges_48 9 rfl
theorem dX12_fitsGauges_110 : decode cX12_fitsGauges 110 = .ok (.iaload, 1) := decs_at DX12_fitsGauges_48 10 rfl
theorem dX12_fitsGauges_111 : decode cX12_fitsGauges 111 = .ok (.aload_n 0, 1) := decs_at DX12_fitsGauges_48 11 rfl
theorem dX12_fitsGauges_112 : decode cX12_fitsGauges 112 = .ok (.getfield 84, 3) := decs_at DX12_fitsGauges_48 12 rfl
theorem dX12_fitsGauges_115 : decode cX12_fitsGauges 115 = .ok (.iload 5, 2) := decs_at DX12_fitsGauges_48 13 rfl
theorem dX12_fitsGauges_117 : decode cX12_fitsGauges 117 = .ok (.iaload, 1) := decs_at DX12_fitsGauges_48 14 rfl
theorem dX12_fitsGauges_118 : decode cX12_fitsGauges 118 = .ok (.iload_n 1, 1) := decs_at DX12_fitsGauges_48 15 rfl
theorem dX12_fitsGauges_119 : decode cX12_fitsGauges 119 = .ok (.invokestatic 335, 3) := decs_at DX12_fitsGauges_48 16 rfl
theorem dX12_fitsGauges_122 : decode cX12_fitsGauges 122 = .ok (.ifCond .ne 5, 3) := decs_at DX12_fitsGauges_48 17 rfl
theorem dX12_fitsGauges_125 : decode cX12_fitsGauges 125 = .ok (.iconst 0, 1) := decs_at DX12_fitsGauges_48 18 rfl
theorem dX12_fitsGauges_126 : decode cX12_fitsGauges 126 = .ok (.ireturn, 1) := decs_at DX12_fitsGauges_48 19 rfl
theorem dX12_fitsGauges_127 : decode cX12_fitsGauges 127 = .ok (.iinc 5 1, 3) := decs_at DX12_fitsGauges_48 20 rfl
theorem dX12_fitsGauges_130 : decode cX12_fitsGauges 130 = .ok (.goto (-69), 3) := decs_at DX12_fitsGauges_48 21 rfl
theorem dX12_fitsGauges_133 : decode cX12_fitsGauges 133 = .ok (.iinc 4 1, 3) := decs_at DX12_fitsGauges_48 22 rfl
theorem dX12_fitsGauges_136 : decode cX12_fitsGauges 136 = .ok (.goto (-90), 3) := decs_at DX12_fitsGauges_48 23 rfl
theorem DX12_fitsGauges_72 : decs cX12_fitsGauges [(139, .iload_n 2, 1), (140, .iconst (-1), 1), (141, .if_icmp .eq 11, 3), (144, .aload_n 0, 1), (145, .invokevirtual 338, 3), (148, .iload_n 2, 1), (149, .if_icmp .ne 7, 3), (152, .iconst 1, 1), (153, .goto 4, 3), (156, .iconst 0, 1), (157, .ireturn, 1)] := by unfold decs; decide +kernel
theorem dX12_fitsGauges_139 : decode cX12_fitsGauges 139 = .ok (.iload_n 2, 1) := decs_at DX12_fitsGauges_72 0 rfl
theorem dX12_fitsGauges_140 : decode cX12_fitsGauges 140 = .ok (.iconst (-1), 1) := decs_at DX12_fitsGauges_72 1 rfl
theorem dX12_fitsGauges_141 : decode cX12_fitsGauges 141 = .ok (.if_icmp .eq 11, 3) := decs_at DX12_fitsGauges_72 2 rfl
theorem dX12_fitsGauges_144 : decode cX12_fitsGauges 144 = .ok (.aload_n 0, 1) := decs_at DX12_fitsGauges_72 3 rfl
theorem dX12_fitsGauges_145 : decode cX12_fitsGauges 145 = .ok (.invokevirtual 338, 3) := decs_at DX12_fitsGauges_72 4 rfl
theorem dX12_fitsGauges_148 : decode cX12_fitsGauges 148 = .ok (.iload_n 2, 1) := decs_at DX12_fitsGauges_72 5 rfl
theorem dX12_fitsGauges_149 : decode cX12_fitsGauges 149 = .ok (.if_icmp .ne 7, 3) := decs_at DX12_fitsGauges_72 6 rfl
theorem dX12_fitsGauges_152 : decode cX12_fitsGauges 152 = .ok (.iconst 1, 1) := decs_at DX12_fitsGauges_72 7 rfl
theorem dX12_fitsGauges_153 : decode cX12_fitsGauges 153 = .ok (.goto 4, 3) := decs_at DX12_fitsGauges_72 8 rfl
theorem dX12_fitsGauges_156 : decode cX12_fitsGauges 156 = .ok (.iconst 0, 1) := decs_at DX12_fitsGauges_72 9 rfl
theorem dX12_fitsGauges_157 : decode cX12_fitsGauges 157 = .ok (.ireturn, 1) := decs_at DX12_fitsGauges_72 10 rfl
theorem DX12_two_0 : decs cX12_two [(0, .sipush 256, 3), (3, .aload_n 0, 1), (4, .getfield 7, 3), (7, .iload_n 1, 1), (8, .iaload, 1), (9, .imul, 1), (10, .aload_n 0, 1), (11, .getfield 7, 3), (14, .iload_n 1, 1), (15, .iconst 1, 1), (16, .iadd, 1), (17, .iaload, 1), (18, .iadd, 1), (19, .ireturn, 1)] := by unfold decs; decide +kernel
theorem dX12_two_0 : decode cX12_two 0 = .ok (.sipush 256, 3) := decs_at DX12_two_0 0 rfl
theorem dX12_two_3 : decode cX12_two 3 = .ok (.aload_n 0, 1) := decs_at DX12_two_0 1 rfl
theorem dX12_two_4 : decode cX12_two 4 = .ok (.getfield 7, 3) := decs_at DX12_two_0 2 rfl
theorem dX12_two_7 : decode cX12_two 7 = .ok (.iload_n 1, 1) := decs_at DX12_two_0 3 rfl
theorem dX12_two_8 : decode cX12_two 8 = .ok (.iaload, 1) := decs_at DX12_two_0 4 rfl
theorem dX12_two_9 : decode cX12_two 9 = .ok (.imul, 1) := decs_at DX12_two_0 5 rfl
theorem dX12_two_10 : decode cX12_two 10 = .ok (.aload_n 0, 1) := decs_at DX12_two_0 6 rfl
theorem dX12_two_11 : decode cX12_two 11 = .ok (.getfield 7, 3) := decs_at DX12_two_0 7 rfl
theorem dX12_two_14 : decode cX12_two 14 = .ok (.iload_n 1, 1) := decs_at DX12_two_0 8 rfl
theorem dX12_two_15 : decode cX12_two 15 = .ok (.iconst 1, 1) := decs_at DX12_two_0 9 rfl
theorem dX12_two_16 : decode cX12_two 16 = .ok (.iadd, 1) := decs_at DX12_two_0 10 rfl
theorem dX12_two_17 : decode cX12_two 17 = .ok (.iaload, 1) := decs_at DX12_two_0 11 rfl
theorem dX12_two_18 : decode cX12_two 18 = .ok (.iadd, 1) := decs_at DX12_two_0 12 rfl
theorem dX12_two_19 : decode cX12_two 19 = .ok (.ireturn, 1) := decs_at DX12_two_0 13 rfl
theorem DX12_fits_0 : decs cX12_fits [(0, .aload_n 0, 1), (1, .iconst 0, 1), (2, .putfield 106, 3), (5, .aload_n 0, 1), (6, .invokevirtual 198, 3), (9, .aload_n 0, 1), (10, .invokevirtual 201, 3), (13, .istore_n 3, 1), (14, .aload_n 0, 1), (15, .iload_n 3, 1), (16, .bipush 6, 2), (18, .idiv, 1), (19, .putfield 332, 3), (22, .iload_n 3, 1), (23, .bipush 6, 2), (25, .irem, 1), (26, .ifCond .ne 41, 3), (29, .aload_n 0, 1), (30, .getfield 332, 3), (33, .iconst 1, 1), (34, .bipush 8, 2), (36, .invokestatic 162, 3), (39, .ifCond .eq 28, 3), (42, .iload_n 1, 1)] := by unfold decs; decide +kernel
theorem dX12_fits_0 : decode cX12_fits 0 = .ok (.aload_n 0, 1) := decs_at DX12_fits_0 0 rfl
theorem dX12_fits_1 : decode cX12_fits 1 = .ok (.iconst 0, 1) := decs_at DX12_fits_0 1 rfl
theorem dX12_fits_2 : decode cX12_fits 2 = .ok (.putfield 106, 3) := decs_at DX12_fits_0 2 rfl
theorem dX12_fits_5 : decode cX12_fits 5 = .ok (.aload_n 0, 1) := decs_at DX12_fits_0 3 rfl
theorem dX12_fits_6 : decode cX12_fits 6 = .ok (.invokevirtual 198, 3) := decs_at DX12_fits_0 4 rfl
theorem dX12_fits_9 : decode cX12_fits 9 = .ok (.aload_n 0, 1) := decs_at DX12_fits_0 5 rfl
theorem dX12_fits_10 : decode cX12_fits 10 = .ok (.invokevirtual 201, 3) := decs_at DX12_fits_0 6 rfl
theorem dX12_fits_13 : decode cX12_fits 13 = .ok (.istore_n 3, 1) := decs_at DX12_fits_0 7 rfl
theorem dX12_fits_14 : decode cX12_fits 14 = .ok (.aload_n 0, 1) := decs_at DX12_fits_0 8 rfl
theorem dX12_fits_15 : decode cX12_fits 15 = .ok (.iload_n 3, 1) := decs_at DX12_fits_0 9 rfl
theorem dX12_fits_16 : decode cX12_fits 16 = .ok (.bipush 6, 2) := decs_at DX12_fits_0 10 rfl
theorem dX12_fits_18 : decode cX12_fits 18 = .ok (.idiv, 1) := decs_at DX12_fits_0 11 rfl
theorem dX12_fits_19 : decode cX12_fits 19 = .ok (.putfield 332, 3) := decs_at DX12_fits_0 12 rfl
theorem dX12_fits_22 : decode cX12_fits 22 = .ok (.iload_n 3, 1) := decs_at DX12_fits_0 13 rfl
theorem dX12_fits_23 : decode cX12_fits 23 = .ok (.bipush 6, 2) := decs_at DX12_fits_0 14 rfl
theorem dX12_fits_25 : decode cX12_fits 25 = .ok (.irem, 1) := decs_at DX12_fits_0 15 rfl
theorem dX12_fits_26 : decode cX12_fits 26 = .ok (.ifCond .ne 41, 3) := decs_at DX12_fits_0 16 rfl
theorem dX12_fits_29 : decode cX12_fits 29 = .ok (.aload_n 0, 1) := decs_at DX12_fits_0 17 rfl
theorem dX12_fits_30 : decode cX12_fits 30 = .ok (.getfield 332, 3) := decs_at DX12_fits_0 18 rfl
theorem dX12_fits_33 : decode cX12_fits 33 = .ok (.iconst 1, 1) := decs_at DX12_fits_0 19 rfl
theorem dX12_fits_34 : decode cX12_fits 34 = .ok (.bipush 8, 2) := decs_at DX12_fits_0 20 rfl
theorem dX12_fits_36 : decode cX12_fits 36 = .ok (.invokestatic 162, 3) := decs_at DX12_fits_0 21 rfl
theorem dX12_fits_39 : decode cX12_fits 39 = .ok (.ifCond .eq 28, 3) := decs_at DX12_fits_0 22 rfl
theorem dX12_fits_42 : decode cX12_fits 42 = .ok (.iload_n 1, 1) := decs_at DX12_fits_0 23 rfl
theorem DX12_fits_24 : decs cX12_fits [(43, .iconst 0, 1), (44, .bipush 99, 2), (46, .invokestatic 162, 3), (49, .ifCond .eq 18, 3), (52, .iload_n 2, 1), (53, .iconst (-1), 1), (54, .if_icmp .lt 13, 3), (57, .iload_n 2, 1), (58, .iconst 1, 1), (59, .aload_n 0, 1), (60, .getfield 16, 3), (63, .ishl, 1), (64, .if_icmp .lt 5, 3), (67, .iconst (-1), 1), (68, .ireturn, 1), (69, .iconst 0, 1), (70, .istore 4, 2), (72, .iload 4, 2), (74, .aload_n 0, 1), (75, .getfield 332, 3), (78, .if_icmp .ge 80, 3), (81, .aload_n 0, 1), (82, .getfield 78, 3), (85, .iload 4, 2)] := by unfold decs; decide +kernel
theorem dX12_fits_43 : decode cX12_fits 43 = .ok (.iconst 0, 1) := decs_at DX12_fits_24 0 rfl
theorem dX12_fits_44 : decode cX12_fits 44 = .ok (.bipush 99, 2) := decs_at DX12_fits_24 1 rfl
theorem dX12_fits_46 : decode cX12_fits 46 = .ok (.invokestatic 162, 3) := decs_at DX12_fits_24 2 rfl
theorem dX12_fits_49 : decode cX12_fits 49 = .ok (.ifCond .eq 18, 3) := decs_at DX12_fits_24 3 rfl
theorem dX12_fits_52 : decode cX12_fits 52 = .ok (.iload_n 2, 1) := decs_at DX12_fits_24 4 rfl
theorem dX12_fits_53 : decode cX12_fits 53 = .ok (.iconst (-1), 1) := decs_at DX12_fits_24 5 rfl
theorem dX12_fits_54 : decode cX12_fits 54 = .ok (.if_icmp .lt 13, 3) := decs_at DX12_fits_24 6 rfl
theorem dX12_fits_57 : decode cX12_fits 57 = .ok (.iload_n 2, 1) := decs_at DX12_fits_24 7 rfl
theorem dX12_fits_58 : decode cX12_fits 58 = .ok (.iconst 1, 1) := decs_at DX12_fits_24 8 rfl
theorem dX12_fits_59 : decode cX12_fits 59 = .ok (.aload_n 0, 1) := decs_at DX12_fits_24 9 rfl
theorem dX12_fits_60 : decode cX12_fits 60 = .ok (.getfield 16, 3) := decs_at DX12_fits_24 10 rfl
theorem dX12_fits_63 : decode cX12_fits 63 = .ok (.ishl, 1) := decs_at DX12_fits_24 11 rfl
theorem dX12_fits_64 : decode cX12_fits 64 = .ok (.if_icmp .lt 5, 3) := decs_at DX12_fits_24 12 rfl
theorem dX12_fits_67 : decode cX12_fits 67 = .ok (.iconst (-1), 1) := decs_at DX12_fits_24 13 rfl
theorem dX12_fits_68 : decode cX12_fits 68 = .ok (.ireturn, 1) := decs_at DX12_fits_24 14 rfl
theorem dX12_fits_69 : decode cX12_fits 69 = .ok (.iconst 0, 1) := decs_at DX12_fits_24 15 rfl
theorem dX12_fits_70 : decode cX12_fits 70 = .ok (.istore 4, 2) := decs_at DX12_fits_24 16 rfl
theorem dX12_fits_72 : decode cX12_fits 72 = .ok (.iload 4, 2) := decs_at DX12_fits_24 17 rfl
theorem dX12_fits_74 : decode cX12_fits 74 = .ok (.aload_n 0, 1) := decs_at DX12_fits_24 18 rfl
theorem dX12_fits_75 : decode cX12_fits 75 = .ok (.getfield 332, 3) := decs_at DX12_fits_24 19 rfl
theorem dX12_fits_78 : decode cX12_fits 78 = .ok (.if_icmp .ge 80, 3) := decs_at DX12_fits_24 20 rfl
theorem dX12_fits_81 : decode cX12_fits 81 = .ok (.aload_n 0, 1) := decs_at DX12_fits_24 21 rfl
theorem dX12_fits_82 : decode cX12_fits 82 = .ok (.getfield 78, 3) := decs_at DX12_fits_24 22 rfl
theorem dX12_fits_85 : decode cX12_fits 85 = .ok (.iload 4, 2) := decs_at DX12_fits_24 23 rfl
theorem DX12_fits_48 : decs cX12_fits [(87, .aload_n 0, 1), (88, .bipush 6, 2), (90, .iload 4, 2), (92, .imul, 1), (93, .invokevirtual 341, 3), (96, .iastore, 1), (97, .aload_n 0, 1), (98, .getfield 81, 3), (101, .iload 4, 2), (103, .aload_n 0, 1), (104, .bipush 6, 2), (106, .iload 4, 2), (108, .imul, 1), (109, .iconst 2, 1), (110, .iadd, 1), (111, .invokevirtual 341, 3), (114, .iastore, 1), (115, .aload_n 0, 1), (116, .getfield 84, 3), (119, .iload 4, 2), (121, .aload_n 0, 1), (122, .bipush 6, 2), (124, .iload 4, 2), (126, .imul, 1)] := by unfold decs; decide +kernel
theorem dX12_fits_87 : decode cX12_fits 87 = .ok (.aload_n 0, 1) := decs_at DX12_fits_48 0 rfl
theorem dX12_fits_88 : decode cX12_fits 88 = .ok (.bipush 6, 2) := decs_at DX12_fits_48 1 rfl
theorem dX12_fits_90 : decode cX12_fits 90 = .ok (.iload 4, 2) := decs_at DX12_fits_48 2 rfl
theorem dX12_fits_92 : decode cX12_fits 92 = .ok (.imul, 1) := decs_at DX12_fits_48 3 rfl
theorem dX12_fits_93 : decode cX12_fits 93 = .ok (.invokevirtual 341, 3) := decs_at DX12_fits_48 4 rfl
theorem dX12_fits_96 : decode cX12_fits 96 = .ok (.iastore, 1) := decs_at DX12_fits_48 5 rfl
theorem dX12_fits_97 : decode cX12_fits 97 = .ok (.aload_n 0, 1) := decs_at DX12_fits_48 6 rfl
theorem dX12_fits_98 : decode cX12_fits 98 = .ok (.getfield 81, 3) := decs_at DX12_fits_48 7 rfl
theorem dX12_fits_101 : decode cX12_fits 101 = .ok (.iload 4, 2) := decs_at DX12_fits_48 8 rfl
theorem dX12_fits_103 : decode cX12_fits 103 = .ok (.aload_n 0, 1) := decs_at DX12_fits_48 9 rfl
theorem dX12_fits_104 : decode cX12_fits 104 = .ok (.bipush 6, 2) := decs_at DX12_fits_48 10 rfl
theorem dX12_fits_106 : decode cX12_fits 106 = .ok (.iload 4, 2) := decs_at DX12_fits_48 11 rfl
theorem dX12_fits_108 : decode cX12_fits 108 = .ok (.imul, 1) := decs_at DX12_fits_48 12 rfl
theorem dX12_fits_109 : decode cX12_fits 109 = .ok (.iconst 2, 1) := decs_at DX12_fits_48 13 rfl
theorem dX12_fits_110 : decode cX12_fits 110 = .ok (.iadd, 1) := decs_at DX12_fits_48 14 rfl
theorem dX12_fits_111 : decode cX12_fits 111 = .ok (.invokevirtual 341, 3) := decs_at DX12_fits_48 15 rfl
theorem dX12_fits_114 : decode cX12_fits 114 = .ok (.iastore, 1) := decs_at DX12_fits_48 16 rfl
theorem dX12_fits_115 : decode cX12_fits 115 = .ok (.aload_n 0, 1) := decs_at DX12_fits_48 17 rfl
theorem dX12_fits_116 : decode cX12_fits 116 = .ok (.getfield 84, 3) := decs_at DX12_fits_48 18 rfl
theorem dX12_fits_119 : decode cX12_fits 119 = .ok (.iload 4, 2) := decs_at DX12_fits_48 19 rfl
theorem dX12_fits_121 : decode cX12_fits 121 = .ok (.aload_n 0, 1) := decs_at DX12_fits_48 20 rfl
theorem dX12_fits_122 : decode cX12_fits 122 = .ok (.bipush 6, 2) := decs_at DX12_fits_48 21 rfl
theorem dX12_fits_124 : decode cX12_fits 124 = .ok (.iload 4, 2) := decs_at DX12_fits_48 22 rfl
theorem dX12_fits_126 : decode cX12_fits 126 = .ok (.imul, 1) := decs_at DX12_fits_48 23 rfl
theorem DX12_fits_72 : decs cX12_fits [(127, .iconst 4, 1), (128, .iadd, 1), (129, .invokevirtual 341, 3), (132, .iastore, 1), (133, .aload_n 0, 1), (134, .getfield 78, 3), (137, .iload 4, 2), (139, .iaload, 1), (140, .iconst 1, 1), (141, .sipush 400, 3), (144, .invokestatic 162, 3), (147, .ifCond .ne 5, 3), (150, .iconst (-1), 1), (151, .ireturn, 1), (152, .iinc 4 1, 3), (155, .goto (-83), 3), (158, .aload_n 0, 1), (159, .iconst 0, 1), (160, .putfield 344, 3), (163, .iconst 0, 1), (164, .istore 4, 2), (166, .iload 4, 2), (168, .bipush 10, 2), (170, .aload_n 0, 1)] := by unfold decs; decide +kernel
theorem dX12_fits_127 : decode cX12_fits 127 = .ok (.iconst 4, 1) := decs_at DX12_fits_72 0 rfl
theorem dX12_fits_128 : decode cX12_fits 128 = .ok (.iadd, 1) := decs_at DX12_fits_72 1 rfl
theorem dX12_fits_129 : decode cX12_fits 129 = .ok (.invokevirtual 341, 3) := decs_at DX12_fits_72 2 rfl
theorem dX12_fits_132 : decode cX12_fits 132 = .ok (.iastore, 1) := decs_at DX12_fits_72 3 rfl
theorem dX12_fits_133 : decode cX12_fits 133 = .ok (.aload_n 0, 1) := decs_at DX12_fits_72 4 rfl
theorem dX12_fits_134 : decode cX12_fits 134 = .ok (.getfield 78, 3) := decs_at DX12_fits_72 5 rfl
theorem dX12_fits_137 : decode cX12_fits 137 = .ok (.iload 4, 2) := decs_at DX12_fits_72 6 rfl
theorem dX12_fits_139 : decode cX12_fits 139 = .ok (.iaload, 1) := decs_at DX12_fits_72 7 rfl
theorem dX12_fits_140 : decode cX12_fits 140 = .ok (.iconst 1, 1) := decs_at DX12_fits_72 8 rfl
theorem dX12_fits_141 : decode cX12_fits 141 = .ok (.sipush 400, 3) := decs_at DX12_fits_72 9 rfl
theorem dX12_fits_144 : decode cX12_fits 144 = .ok (.invokestatic 162, 3) := decs_at DX12_fits_72 10 rfl
theorem dX12_fits_147 : decode cX12_fits 147 = .ok (.ifCond .ne 5, 3) := decs_at DX12_fits_72 11 rfl
theorem dX12_fits_150 : decode cX12_fits 150 = .ok (.iconst (-1), 1) := decs_at DX12_fits_72 12 rfl
theorem dX12_fits_151 : decode cX12_fits 151 = .ok (.ireturn, 1) := decs_at DX12_fits_72 13 rfl
theorem dX12_fits_152 : decode cX12_fits 152 = .ok (.iinc 4 1, 3) := decs_at DX12_fits_72 14 rfl
theorem dX12_fits_155 : decode cX12_fits 155 = .ok (.goto (-83), 3) := decs_at DX12_fits_72 15 rfl
theorem dX12_fits_158 : decode cX12_fits 158 = .ok (.aload_n 0, 1) := decs_at DX12_fits_72 16 rfl
theorem dX12_fits_159 : decode cX12_fits 159 = .ok (.iconst 0, 1) := decs_at DX12_fits_72 17 rfl
theorem dX12_fits_160 : decode cX12_fits 160 = .ok (.putfield 344, 3) := decs_at DX12_fits_72 18 rfl
theorem dX12_fits_163 : decode cX12_fits 163 = .ok (.iconst 0, 1) := decs_at DX12_fits_72 19 rfl
theorem dX12_fits_164 : decode cX12_fits 164 = .ok (.istore 4, 2) := decs_at DX12_fits_72 20 rfl
theorem dX12_fits_166 : decode cX12_fits 166 = .ok (.iload 4, 2) := decs_at DX12_fits_72 21 rfl
theorem dX12_fits_168 : decode cX12_fits 168 = .ok (.bipush 10, 2) := decs_at DX12_fits_72 22 rfl
theorem dX12_fits_170 : decode cX12_fits 170 = .ok (.aload_n 0, 1) := decs_at DX12_fits_72 23 rfl
theorem DX12_fits_96 : decs cX12_fits [(171, .getfield 16, 3), (174, .imul, 1), (175, .bipush 7, 2), (177, .iadd, 1), (178, .if_icmp .ge 73, 3), (181, .iload 4, 2), (183, .bipush 10, 2), (185, .irem, 1), (186, .bipush 6, 2), (188, .if_icmp .gt 57, 3), (191, .iload 4, 2), (193, .ifCond .le 13, 3), (196, .iload 4, 2), (198, .bipush 10, 2), (200, .if_icmp .ge 6, 3), (203, .goto 42, 3), (206, .aload_n 0, 1), (207, .iload 4, 2), (209, .invokevirtual 347, 3), (212, .aload_n 0, 1), (213, .iload_n 1, 1), (214, .iload_n 2, 1), (215, .invokevirtual 350, 3), (218, .ifCond .ne 6, 3)] := by unfold decs; decide +kernel
theorem dX12_fits_171 : decode cX12_fits 171 = .ok (.getfield 16, 3) := decs_at DX12_fits_96 0 rfl
theorem dX12_fits_174 : decode cX12_fits 174 = .ok (.imul, 1) := decs_at DX12_fits_96 1 rfl
theorem dX12_fits_175 : decode cX12_fits 175 = .ok (.bipush 7, 2) := decs_at DX12_fits_96 2 rfl
theorem dX12_fits_177 : decode cX12_fits 177 = .ok (.iadd, 1) := decs_at DX12_fits_96 3 rfl
theorem dX12_fits_178 : decode cX12_fits 178 = .ok (.if_icmp .ge 73, 3) := decs_at DX12_fits_96 4 rfl
theorem dX12_fits_181 : decode cX12_fits 181 = .ok (.iload 4, 2) := decs_at DX12_fits_96 5 rfl
theorem dX12_fits_183 : decode cX12_fits 183 = .ok (.bipush 10, 2) := decs_at DX12_fits_96 6 rfl
theorem dX12_fits_185 : decode cX12_fits 185 = .ok (.irem, 1) := decs_at DX12_fits_96 7 rfl
theorem dX12_fits_186 : decode cX12_fits 186 = .ok (.bipush 6, 2) := decs_at DX12_fits_96 8 rfl
theorem dX12_fits_188 : decode cX12_fits 188 = .ok (.if_icmp .gt 57, 3) := decs_at DX12_fits_96 9 rfl
theorem dX12_fits_191 : decode cX12_fits 191 = .ok (.iload 4, 2) := decs_at DX12_fits_96 10 rfl
theorem dX12_fits_193 : decode cX12_fits 193 = .ok (.ifCond .le 13, 3) := decs_at DX12_fits_96 11 rfl
theorem dX12_fits_196 : decode cX12_fits 196 = .ok (.iload 4, 2) := decs_at DX12_fits_96 12 rfl
theorem dX12_fits_198 : decode cX12_fits 198 = .ok (.bipush 10, 2) := decs_at DX12_fits_96 13 rfl
theorem dX12_fits_200 : decode cX12_fits 200 = .ok (.if_icmp .ge 6, 3) := decs_at DX12_fits_96 14 rfl
theorem dX12_fits_203 : decode cX12_fits 203 = .ok (.goto 42, 3) := decs_at DX12_fits_96 15 rfl
theorem dX12_fits_206 : decode cX12_fits 206 = .ok (.aload_n 0, 1) := decs_at DX12_fits_96 16 rfl
theorem dX12_fits_207 : decode cX12_fits 207 = .ok (.iload 4, 2) := decs_at DX12_fits_96 17 rfl
theorem dX12_fits_209 : decode cX12_fits 209 = .ok (.invokevirtual 347, 3) := decs_at DX12_fits_96 18 rfl
theorem dX12_fits_212 : decode cX12_fits 212 = .ok (.aload_n 0, 1) := decs_at DX12_fits_96 19 rfl
theorem dX12_fits_213 : decode cX12_fits 213 = .ok (.iload_n 1, 1) := decs_at DX12_fits_96 20 rfl
theorem dX12_fits_214 : decode cX12_fits 214 = .ok (.iload_n 2, 1) := decs_at DX12_fits_96 21 rfl
theorem dX12_fits_215 : decode cX12_fits 215 = .ok (.invokevirtual 350, 3) := decs_at DX12_fits_96 22 rfl
theorem dX12_fits_218 : decode cX12_fits 218 = .ok (.ifCond .ne 6, 3) := decs_at DX12_fits_96 23 rfl
theorem DX12_fits_120 : decs cX12_fits [(221, .goto 24, 3), (224, .aload_n 0, 1), (225, .getfield 87, 3), (228, .aload_n 0, 1), (229, .getfield 344, 3), (232, .iload 4, 2), (234, .iastore, 1), (235, .aload_n 0, 1), (236, .dup, 1), (237, .getfield 344, 3), (240, .iconst 1, 1), (241, .iadd, 1), (242, .putfield 344, 3), (245, .iinc 4 1, 3), (248, .goto (-82), 3), (251, .aload_n 0, 1), (252, .iconst 1, 1), (253, .putfield 353, 3), (256, .aload_n 0, 1), (257, .aload_n 0, 1), (258, .getfield 16, 3), (261, .putfield 356, 3), (264, .aload_n 0, 1), (265, .getfield 344, 3)] := by unfold decs; decide +kernel
theorem dX12_fits_221 : decode cX12_fits 221 = .ok (.goto 24, 3) := decs_at DX12_fits_120 0 rfl
theorem dX12_fits_224 : decode cX12_fits 224 = .ok (.aload_n 0, 1) := decs_at DX12_fits_120 1 rfl
theorem dX12_fits_225 : decode cX12_fits 225 = .ok (.getfield 87, 3) := decs_at DX12_fits_120 2 rfl
theorem dX12_fits_228 : decode cX12_fits 228 = .ok (.aload_n 0, 1) := decs_at DX12_fits_120 3 rfl
theorem dX12_fits_229 : decode cX12_fits 229 = .ok (.getfield 344, 3) := decs_at DX12_fits_120 4 rfl
theorem dX12_fits_232 : decode cX12_fits 232 = .ok (.iload 4, 2) := decs_at DX12_fits_120 5 rfl
theorem dX12_fits_234 : decode cX12_fits 234 = .ok (.iastore, 1) := decs_at DX12_fits_120 6 rfl
theorem dX12_fits_235 : decode cX12_fits 235 = .ok (.aload_n 0, 1) := decs_at DX12_fits_120 7 rfl
theorem dX12_fits_236 : decode cX12_fits 236 = .ok (.dup, 1) := decs_at DX12_fits_120 8 rfl
theorem dX12_fits_237 : decode cX12_fits 237 = .ok (.getfield 344, 3) := decs_at DX12_fits_120 9 rfl
theorem dX12_fits_240 : decode cX12_fits 240 = .ok (.iconst 1, 1) := decs_at DX12_fits_120 10 rfl
theorem dX12_fits_241 : decode cX12_fits 241 = .ok (.iadd, 1) := decs_at DX12_fits_120 11 rfl
theorem dX12_fits_242 : decode cX12_fits 242 = .ok (.putfield 344, 3) := decs_at DX12_fits_120 12 rfl
theorem dX12_fits_245 : decode cX12_fits 245 = .ok (.iinc 4 1, 3) := decs_at DX12_fits_120 13 rfl
theorem dX12_fits_248 : decode cX12_fits 248 = .ok (.goto (-82), 3) := decs_at DX12_fits_120 14 rfl
theorem dX12_fits_251 : decode cX12_fits 251 = .ok (.aload_n 0, 1) := decs_at DX12_fits_120 15 rfl
theorem dX12_fits_252 : decode cX12_fits 252 = .ok (.iconst 1, 1) := decs_at DX12_fits_120 16 rfl
theorem dX12_fits_253 : decode cX12_fits 253 = .ok (.putfield 353, 3) := decs_at DX12_fits_120 17 rfl
theorem dX12_fits_256 : decode cX12_fits 256 = .ok (.aload_n 0, 1) := decs_at DX12_fits_120 18 rfl
theorem dX12_fits_257 : decode cX12_fits 257 = .ok (.aload_n 0, 1) := decs_at DX12_fits_120 19 rfl
theorem dX12_fits_258 : decode cX12_fits 258 = .ok (.getfield 16, 3) := decs_at DX12_fits_120 20 rfl
theorem dX12_fits_261 : decode cX12_fits 261 = .ok (.putfield 356, 3) := decs_at DX12_fits_120 21 rfl
theorem dX12_fits_264 : decode cX12_fits 264 = .ok (.aload_n 0, 1) := decs_at DX12_fits_120 22 rfl
theorem dX12_fits_265 : decode cX12_fits 265 = .ok (.getfield 344, 3) := decs_at DX12_fits_120 23 rfl
theorem DX12_fits_144 : decs cX12_fits [(268, .ireturn, 1)] := by unfold decs; decide +kernel
theorem dX12_fits_268 : decode cX12_fits 268 = .ok (.ireturn, 1) := decs_at DX12_fits_144 0 rfl
theorem DX12_fitAt_0 : decs cX12_fitAt [(0, .aload_n 0, 1), (1, .iconst 0, 1), (2, .putfield 106, 3), (5, .iload_n 1, 1), (6, .ifCond .lt 20, 3), (9, .iload_n 1, 1), (10, .aload_n 0, 1), (11, .getfield 344, 3), (14, .if_icmp .ge 12, 3), (17, .aload_n 0, 1), (18, .getfield 87, 3), (21, .iload_n 1, 1), (22, .iaload, 1), (23, .goto 4, 3), (26, .iconst (-1), 1), (27, .ireturn, 1)] := by unfold decs; decide +kernel
theorem dX12_fitAt_0 : decode cX12_fitAt 0 = .ok (.aload_n 0, 1) := decs_at DX12_fitAt_0 0 rfl
theorem dX12_fitAt_1 : decode cX12_fitAt 1 = .ok (.iconst 0, 1) := decs_at DX12_fitAt_0 1 rfl
theorem dX12_fitAt_2 : decode cX12_fitAt 2 = .ok (.putfield 106, 3) := decs_at DX12_fitAt_0 2 rfl
theorem dX12_fitAt_5 : decode cX12_fitAt 5 = .ok (.iload_n 1, 1) := decs_at DX12_fitAt_0 3 rfl
theorem dX12_fitAt_6 : decode cX12_fitAt 6 = .ok (.ifCond .lt 20, 3) := decs_at DX12_fitAt_0 4 rfl
theorem dX12_fitAt_9 : decode cX12_fitAt 9 = .ok (.iload_n 1, 1) := decs_at DX12_fitAt_0 5 rfl
theorem dX12_fitAt_10 : decode cX12_fitAt 10 = .ok (.aload_n 0, 1) := decs_at DX12_fitAt_0 6 rfl
theorem dX12_fitAt_11 : decode cX12_fitAt 11 = .ok (.getfield 344, 3) := decs_at DX12_fitAt_0 7 rfl
theorem dX12_fitAt_14 : decode cX12_fitAt 14 = .ok (.if_icmp .ge 12, 3) := decs_at DX12_fitAt_0 8 rfl
theorem dX12_fitAt_17 : decode cX12_fitAt 17 = .ok (.aload_n 0, 1) := decs_at DX12_fitAt_0 9 rfl
theorem dX12_fitAt_18 : decode cX12_fitAt 18 = .ok (.getfield 87, 3) := decs_at DX12_fitAt_0 10 rfl
theorem dX12_fitAt_21 : decode cX12_fitAt 21 = .ok (.iload_n 1, 1) := decs_at DX12_fitAt_0 11 rfl
theorem dX12_fitAt_22 : decode cX12_fitAt 22 = .ok (.iaload, 1) := decs_at DX12_fitAt_0 12 rfl
theorem dX12_fitAt_23 : decode cX12_fitAt 23 = .ok (.goto 4, 3) := decs_at DX12_fitAt_0 13 rfl
theorem dX12_fitAt_26 : decode cX12_fitAt 26 = .ok (.iconst (-1), 1) := decs_at DX12_fitAt_0 14 rfl
theorem dX12_fitAt_27 : decode cX12_fitAt 27 = .ok (.ireturn, 1) := decs_at DX12_fitAt_0 15 rfl
theorem DX12_bits_0 : decs cX12_bits [(0, .iconst 0, 1), (1, .istore_n 1, 1), (2, .iload_n 0, 1), (3, .istore_n 2, 1), (4, .iload_n 2, 1), (5, .ifCond .eq 15, 3), (8, .iinc 1 1, 3), (11, .iload_n 2, 1), (12, .iload_n 2, 1), (13, .iconst 1, 1), (14, .isub, 1), (15, .iand, 1), (16, .istore_n 2, 1), (17, .goto (-13), 3), (20, .iload_n 1, 1), (21, .ireturn, 1)] := by unfold decs; decide +kernel
theorem dX12_bits_0 : decode cX12_bits 0 = .ok (.iconst 0, 1) := decs_at DX12_bits_0 0 rfl
theorem dX12_bits_1 : decode cX12_bits 1 = .ok (.istore_n 1, 1) := decs_at DX12_bits_0 1 rfl
theorem dX12_bits_2 : decode cX12_bits 2 = .ok (.iload_n 0, 1) := decs_at DX12_bits_0 2 rfl
theorem dX12_bits_3 : decode cX12_bits 3 = .ok (.istore_n 2, 1) := decs_at DX12_bits_0 3 rfl
theorem dX12_bits_4 : decode cX12_bits 4 = .ok (.iload_n 2, 1) := decs_at DX12_bits_0 4 rfl
theorem dX12_bits_5 : decode cX12_bits 5 = .ok (.ifCond .eq 15, 3) := decs_at DX12_bits_0 5 rfl
theorem dX12_bits_8 : decode cX12_bits 8 = .ok (.iinc 1 1, 3) := decs_at DX12_bits_0 6 rfl
theorem dX12_bits_11 : decode cX12_bits 11 = .ok (.iload_n 2, 1) := decs_at DX12_bits_0 7 rfl
theorem dX12_bits_12 : decode cX12_bits 12 = .ok (.iload_n 2, 1) := decs_at DX12_bits_0 8 rfl
theorem dX12_bits_13 : decode cX12_bits 13 = .ok (.iconst 1, 1) := decs_at DX12_bits_0 9 rfl
theorem dX12_bits_14 : decode cX12_bits 14 = .ok (.isub, 1) := decs_at DX12_bits_0 10 rfl
theorem dX12_bits_15 : decode cX12_bits 15 = .ok (.iand, 1) := decs_at DX12_bits_0 11 rfl
theorem dX12_bits_16 : decode cX12_bits 16 = .ok (.istore_n 2, 1) := decs_at DX12_bits_0 12 rfl
theorem dX12_bits_17 : decode cX12_bits 17 = .ok (.goto (-13), 3) := decs_at DX12_bits_0 13 rfl
theorem dX12_bits_20 : decode cX12_bits 20 = .ok (.iload_n 1, 1) := decs_at DX12_bits_0 14 rfl
theorem dX12_bits_21 : decode cX12_bits 21 = .ok (.ireturn, 1) := decs_at DX12_bits_0 15 rfl
theorem DX12_parts_0 : decs cX12_parts [(0, .iconst 0, 1), (1, .istore_n 2, 1), (2, .iload_n 2, 1), (3, .aload_n 0, 1), (4, .getfield 344, 3), (7, .if_icmp .ge 58, 3), (10, .iconst 0, 1), (11, .istore_n 3, 1), (12, .iload_n 3, 1), (13, .iload_n 2, 1), (14, .if_icmp .ge 45, 3), (17, .aload_n 0, 1), (18, .getfield 90, 3), (21, .iload_n 2, 1), (22, .iaload, 1), (23, .aload_n 0, 1), (24, .getfield 90, 3), (27, .iload_n 3, 1), (28, .iaload, 1), (29, .if_icmp .eq 24, 3), (32, .aload_n 0, 1), (33, .getfield 90, 3), (36, .iload_n 2, 1), (37, .iaload, 1)] := by unfold decs; decide +kernel
theorem dX12_parts_0 : decode cX12_parts 0 = .ok (.iconst 0, 1) := decs_at DX12_parts_0 0 rfl
theorem dX12_parts_1 : decode cX12_parts 1 = .ok (.istore_n 2, 1) := decs_at DX12_parts_0 1 rfl
theorem dX12_parts_2 : decode cX12_parts 2 = .ok (.iload_n 2, 1) := decs_at DX12_parts_0 2 rfl
theorem dX12_parts_3 : decode cX12_parts 3 = .ok (.aload_n 0, 1) := decs_at DX12_parts_0 3 rfl
theorem dX12_parts_4 : decode cX12_parts 4 = .ok (.getfield 344, 3) := decs_at DX12_parts_0 4 rfl
theorem dX12_parts_7 : decode cX12_parts 7 = .ok (.if_icmp .ge 58, 3) := decs_at DX12_parts_0 5 rfl
theorem dX12_parts_10 : decode cX12_parts 10 = .ok (.iconst 0, 1) := decs_at DX12_parts_0 6 rfl
theorem dX12_parts_11 : decode cX12_parts 11 = .ok (.istore_n 3, 1) := decs_at DX12_parts_0 7 rfl
theorem dX12_parts_12 : decode cX12_parts 12 = .ok (.iload_n 3, 1) := decs_at DX12_parts_0 8 rfl
theorem dX12_parts_13 : decode cX12_parts 13 = .ok (.iload_n 2, 1) := decs_at DX12_parts_0 9 rfl
theorem dX12_parts_14 : decode cX12_parts 14 = .ok (.if_icmp .ge 45, 3) := decs_at DX12_parts_0 10 rfl
theorem dX12_parts_17 : decode cX12_parts 17 = .ok (.aload_n 0, 1) := decs_at DX12_parts_0 11 rfl
theorem dX12_parts_18 : decode cX12_parts 18 = .ok (.getfield 90, 3) := decs_at DX12_parts_0 12 rfl
theorem dX12_parts_21 : decode cX12_parts 21 = .ok (.iload_n 2, 1) := decs_at DX12_parts_0 13 rfl
theorem dX12_parts_22 : decode cX12_parts 22 = .ok (.iaload, 1) := decs_at DX12_parts_0 14 rfl
theorem dX12_parts_23 : decode cX12_parts 23 = .ok (.aload_n 0, 1) := decs_at DX12_parts_0 15 rfl
theorem dX12_parts_24 : decode cX12_parts 24 = .ok (.getfield 90, 3) := decs_at DX12_parts_0 16 rfl
theorem dX12_parts_27 : decode cX12_parts 27 = .ok (.iload_n 3, 1) := decs_at DX12_parts_0 17 rfl
theorem dX12_parts_28 : decode cX12_parts 28 = .ok (.iaload, 1) := decs_at DX12_parts_0 18 rfl
theorem dX12_parts_29 : decode cX12_parts 29 = .ok (.if_icmp .eq 24, 3) := decs_at DX12_parts_0 19 rfl
theorem dX12_parts_32 : decode cX12_parts 32 = .ok (.aload_n 0, 1) := decs_at DX12_parts_0 20 rfl
theorem dX12_parts_33 : decode cX12_parts 33 = .ok (.getfield 90, 3) := decs_at DX12_parts_0 21 rfl
theorem dX12_parts_36 : decode cX12_parts 36 = .ok (.iload_n 2, 1) := decs_at DX12_parts_0 22 rfl
theorem dX12_parts_37 : decode cX12_parts 37 = .ok (.iaload, 1) := decs_at DX12_parts_0 23 rfl
theorem DX12_parts_24 : decs cX12_parts [(38, .iload_n 1, 1), (39, .iand, 1), (40, .aload_n 0, 1), (41, .getfield 90, 3), (44, .iload_n 3, 1), (45, .iaload, 1), (46, .iload_n 1, 1), (47, .iand, 1), (48, .if_icmp .ne 5, 3), (51, .iconst 0, 1), (52, .ireturn, 1), (53, .iinc 3 1, 3), (56, .goto (-44), 3), (59, .iinc 2 1, 3), (62, .goto (-60), 3), (65, .iconst 1, 1), (66, .ireturn, 1)] := by unfold decs; decide +kernel
theorem dX12_parts_38 : decode cX12_parts 38 = .ok (.iload_n 1, 1) := decs_at DX12_parts_24 0 rfl
theorem dX12_parts_39 : decode cX12_parts 39 = .ok (.iand, 1) := decs_at DX12_parts_24 1 rfl
theorem dX12_parts_40 : decode cX12_parts 40 = .ok (.aload_n 0, 1) := decs_at DX12_parts_24 2 rfl
theorem dX12_parts_41 : decode cX12_parts 41 = .ok (.getfield 90, 3) := decs_at DX12_parts_24 3 rfl
theorem dX12_parts_44 : decode cX12_parts 44 = .ok (.iload_n 3, 1) := decs_at DX12_parts_24 4 rfl
theorem dX12_parts_45 : decode cX12_parts 45 = .ok (.iaload, 1) := decs_at DX12_parts_24 5 rfl
theorem dX12_parts_46 : decode cX12_parts 46 = .ok (.iload_n 1, 1) := decs_at DX12_parts_24 6 rfl
theorem dX12_parts_47 : decode cX12_parts 47 = .ok (.iand, 1) := decs_at DX12_parts_24 7 rfl
theorem dX12_parts_48 : decode cX12_parts 48 = .ok (.if_icmp .ne 5, 3) := decs_at DX12_parts_24 8 rfl
theorem dX12_parts_51 : decode cX12_parts 51 = .ok (.iconst 0, 1) := decs_at DX12_parts_24 9 rfl
theorem dX12_parts_52 : decode cX12_parts 52 = .ok (.ireturn, 1) := decs_at DX12_parts_24 10 rfl
theorem dX12_parts_53 : decode cX12_parts 53 = .ok (.iinc 3 1, 3) := decs_at DX12_parts_24 11 rfl
theorem dX12_parts_56 : decode cX12_parts 56 = .ok (.goto (-44), 3) := decs_at DX12_parts_24 12 rfl
theorem dX12_parts_59 : decode cX12_parts 59 = .ok (.iinc 2 1, 3) := decs_at DX12_parts_24 13 rfl
theorem dX12_parts_62 : decode cX12_parts 62 = .ok (.goto (-60), 3) := decs_at DX12_parts_24 14 rfl
theorem dX12_parts_65 : decode cX12_parts 65 = .ok (.iconst 1, 1) := decs_at DX12_parts_24 15 rfl
theorem dX12_parts_66 : decode cX12_parts 66 = .ok (.ireturn, 1) := decs_at DX12_parts_24 16 rfl
theorem DX12_walks_0 : decs cX12_walks [(0, .aload_n 0, 1), (1, .iconst 0, 1), (2, .putfield 106, 3), (5, .aload_n 0, 1), (6, .invokevirtual 198, 3), (9, .iload_n 1, 1), (10, .iconst 1, 1), (11, .sipush 400, 3), (14, .invokestatic 162, 3), (17, .ifCond .eq 21, 3), (20, .aload_n 0, 1), (21, .getfield 353, 3), (24, .ifCond .eq 14, 3), (27, .aload_n 0, 1), (28, .getfield 356, 3), (31, .aload_n 0, 1), (32, .getfield 16, 3), (35, .if_icmp .eq 5, 3), (38, .iconst (-1), 1), (39, .ireturn, 1), (40, .iconst 0, 1), (41, .istore_n 2, 1), (42, .iload_n 2, 1), (43, .aload_n 0, 1)] := by unfold decs; decide +kernel
theorem dX12_walks_0 : decode cX12_walks 0 = .ok (.aload_n 0, 1) := decs_at DX12_walks_0 0 rfl
theorem dX12_walks_1 : decode cX12_walks 1 = .ok (.iconst 0, 1) := decs_at DX12_walks_0 1 rfl
theorem dX12_walks_2 : decode cX12_walks 2 = .ok (.putfield 106, 3) := decs_at DX12_walks_0 2 rfl
theorem dX12_walks_5 : decode cX12_walks 5 = .ok (.aload_n 0, 1) := decs_at DX12_walks_0 3 rfl
theorem dX12_walks_6 : decode cX12_walks 6 = .ok (.invokevirtual 198, 3) := decs_at DX12_walks_0 4 rfl
theorem dX12_walks_9 : decode cX12_walks 9 = .ok (.iload_n 1, 1) := decs_at DX12_walks_0 5 rfl
theorem dX12_walks_10 : decode cX12_walks 10 = .ok (.iconst 1, 1) := decs_at DX12_walks_0 6 rfl
theorem dX12_walks_11 : decode cX12_walks 11 = .ok (.sipush 400, 3) := decs_at DX12_walks_0 7 rfl
theorem dX12_walks_14 : decode cX12_walks 14 = .ok (.invokestatic 162, 3) := decs_at DX12_walks_0 8 rfl
theorem dX12_walks_17 : decode cX12_walks 17 = .ok (.ifCond .eq 21, 3) := decs_at DX12_walks_0 9 rfl
theorem dX12_walks_20 : decode cX12_walks 20 = .ok (.aload_n 0, 1) := decs_at DX12_walks_0 10 rfl
theorem dX12_walks_21 : decode cX12_walks 21 = .ok (.getfield 353, 3) := decs_at DX12_walks_0 11 rfl
theorem dX12_walks_24 : decode cX12_walks 24 = .ok (.ifCond .eq 14, 3) := decs_at DX12_walks_0 12 rfl
theorem dX12_walks_27 : decode cX12_walks 27 = .ok (.aload_n 0, 1) := decs_at DX12_walks_0 13 rfl
theorem dX12_walks_28 : decode cX12_walks 28 = .ok (.getfield 356, 3) := decs_at DX12_walks_0 14 rfl
theorem dX12_walks_31 : decode cX12_walks 31 = .ok (.aload_n 0, 1) := decs_at DX12_walks_0 15 rfl
theorem dX12_walks_32 : decode cX12_walks 32 = .ok (.getfield 16, 3) := decs_at DX12_walks_0 16 rfl
theorem dX12_walks_35 : decode cX12_walks 35 = .ok (.if_icmp .eq 5, 3) := decs_at DX12_walks_0 17 rfl
theorem dX12_walks_38 : decode cX12_walks 38 = .ok (.iconst (-1), 1) := decs_at DX12_walks_0 18 rfl
theorem dX12_walks_39 : decode cX12_walks 39 = .ok (.ireturn, 1) := decs_at DX12_walks_0 19 rfl
theorem dX12_walks_40 : decode cX12_walks 40 = .ok (.iconst 0, 1) := decs_at DX12_walks_0 20 rfl
theorem dX12_walks_41 : decode cX12_walks 41 = .ok (.istore_n 2, 1) := decs_at DX12_walks_0 21 rfl
theorem dX12_walks_42 : decode cX12_walks 42 = .ok (.iload_n 2, 1) := decs_at DX12_walks_0 22 rfl
theorem dX12_walks_43 : decode cX12_walks 43 = .ok (.aload_n 0, 1) := decs_at DX12_walks_0 23 rfl
theorem DX12_walks_24 : decs cX12_walks [(44, .getfield 344, 3), (47, .if_icmp .ge 34, 3), (50, .aload_n 0, 1), (51, .aload_n 0, 1), (52, .getfield 87, 3), (55, .iload_n 2, 1), (56, .iaload, 1), (57, .invokevirtual 347, 3), (60, .aload_n 0, 1), (61, .iload_n 1, 1), (62, .invokevirtual 287, 3), (65, .aload_n 0, 1), (66, .getfield 90, 3), (69, .iload_n 2, 1), (70, .aload_n 0, 1), (71, .invokevirtual 338, 3), (74, .iastore, 1), (75, .iinc 2 1, 3), (78, .goto (-36), 3), (81, .aload_n 0, 1), (82, .iconst 0, 1), (83, .putfield 359, 3), (86, .iconst 0, 1), (87, .istore_n 2, 1)] := by unfold decs; decide +kernel
theorem dX12_walks_44 : decode cX12_walks 44 = .ok (.getfield 344, 3) := decs_at DX12_walks_24 0 rfl
theorem dX12_walks_47 : decode cX12_walks 47 = .ok (.if_icmp .ge 34, 3) := decs_at DX12_walks_24 1 rfl
theorem dX12_walks_50 : decode cX12_walks 50 = .ok (.aload_n 0, 1) := decs_at DX12_walks_24 2 rfl
theorem dX12_walks_51 : decode cX12_walks 51 = .ok (.aload_n 0, 1) := decs_at DX12_walks_24 3 rfl
theorem dX12_walks_52 : decode cX12_walks 52 = .ok (.getfield 87, 3) := decs_at DX12_walks_24 4 rfl
theorem dX12_walks_55 : decode cX12_walks 55 = .ok (.iload_n 2, 1) := decs_at DX12_walks_24 5 rfl
theorem dX12_walks_56 : decode cX12_walks 56 = .ok (.iaload, 1) := decs_at DX12_walks_24 6 rfl
theorem dX12_walks_57 : decode cX12_walks 57 = .ok (.invokevirtual 347, 3) := decs_at DX12_walks_24 7 rfl
theorem dX12_walks_60 : decode cX12_walks 60 = .ok (.aload_n 0, 1) := decs_at DX12_walks_24 8 rfl
theorem dX12_walks_61 : decode cX12_walks 61 = .ok (.iload_n 1, 1) := decs_at DX12_walks_24 9 rfl
theorem dX12_walks_62 : decode cX12_walks 62 = .ok (.invokevirtual 287, 3) := decs_at DX12_walks_24 10 rfl
theorem dX12_walks_65 : decode cX12_walks 65 = .ok (.aload_n 0, 1) := decs_at DX12_walks_24 11 rfl
theorem dX12_walks_66 : decode cX12_walks 66 = .ok (.getfield 90, 3) := decs_at DX12_walks_24 12 rfl
theorem dX12_walks_69 : decode cX12_walks 69 = .ok (.iload_n 2, 1) := decs_at DX12_walks_24 13 rfl
theorem dX12_walks_70 : decode cX12_walks 70 = .ok (.aload_n 0, 1) := decs_at DX12_walks_24 14 rfl
theorem dX12_walks_71 : decode cX12_walks 71 = .ok (.invokevirtual 338, 3) := decs_at DX12_walks_24 15 rfl
theorem dX12_walks_74 : decode cX12_walks 74 = .ok (.iastore, 1) := decs_at DX12_walks_24 16 rfl
theorem dX12_walks_75 : decode cX12_walks 75 = .ok (.iinc 2 1, 3) := decs_at DX12_walks_24 17 rfl
theorem dX12_walks_78 : decode cX12_walks 78 = .ok (.goto (-36), 3) := decs_at DX12_walks_24 18 rfl
theorem dX12_walks_81 : decode cX12_walks 81 = .ok (.aload_n 0, 1) := decs_at DX12_walks_24 19 rfl
theorem dX12_walks_82 : decode cX12_walks 82 = .ok (.iconst 0, 1) := decs_at DX12_walks_24 20 rfl
theorem dX12_walks_83 : decode cX12_walks 83 = .ok (.putfield 359, 3) := decs_at DX12_walks_24 21 rfl
theorem dX12_walks_86 : decode cX12_walks 86 = .ok (.iconst 0, 1) := decs_at DX12_walks_24 22 rfl
theorem dX12_walks_87 : decode cX12_walks 87 = .ok (.istore_n 2, 1) := decs_at DX12_walks_24 23 rfl
theorem DX12_walks_48 : decs cX12_walks [(88, .iload_n 2, 1), (89, .aload_n 0, 1), (90, .getfield 344, 3), (93, .if_icmp .ge 47, 3), (96, .iconst 0, 1), (97, .istore_n 3, 1), (98, .iload_n 3, 1), (99, .iload_n 2, 1), (100, .if_icmp .ge 34, 3), (103, .aload_n 0, 1), (104, .getfield 90, 3), (107, .iload_n 2, 1), (108, .iaload, 1), (109, .aload_n 0, 1), (110, .getfield 90, 3), (113, .iload_n 3, 1), (114, .iaload, 1), (115, .if_icmp .ne 13, 3), (118, .aload_n 0, 1), (119, .dup, 1), (120, .getfield 359, 3), (123, .iconst 1, 1), (124, .iadd, 1), (125, .putfield 359, 3)] := by unfold decs; decide +kernel
theorem dX12_walks_88 : decode cX12_walks 88 = .ok (.iload_n 2, 1) := decs_at DX12_walks_48 0 rfl
theorem dX12_walks_89 : decode cX12_walks 89 = .ok (.aload_n 0, 1) := decs_at DX12_walks_48 1 rfl
theorem dX12_walks_90 : decode cX12_walks 90 = .ok (.getfield 344, 3) := decs_at DX12_walks_48 2 rfl
theorem dX12_walks_93 : decode cX12_walks 93 = .ok (.if_icmp .ge 47, 3) := decs_at DX12_walks_48 3 rfl
theorem dX12_walks_96 : decode cX12_walks 96 = .ok (.iconst 0, 1) := decs_at DX12_walks_48 4 rfl
theorem dX12_walks_97 : decode cX12_walks 97 = .ok (.istore_n 3, 1) := decs_at DX12_walks_48 5 rfl
theorem dX12_walks_98 : decode cX12_walks 98 = .ok (.iload_n 3, 1) := decs_at DX12_walks_48 6 rfl
theorem dX12_walks_99 : decode cX12_walks 99 = .ok (.iload_n 2, 1) := decs_at DX12_walks_48 7 rfl
theorem dX12_walks_100 : decode cX12_walks 100 = .ok (.if_icmp .ge 34, 3) := decs_at DX12_walks_48 8 rfl
theorem dX12_walks_103 : decode cX12_walks 103 = .ok (.aload_n 0, 1) := decs_at DX12_walks_48 9 rfl
theorem dX12_walks_104 : decode cX12_walks 104 = .ok (.getfield 90, 3) := decs_at DX12_walks_48 10 rfl
theorem dX12_walks_107 : decode cX12_walks 107 = .ok (.iload_n 2, 1) := decs_at DX12_walks_48 11 rfl
theorem dX12_walks_108 : decode cX12_walks 108 = .ok (.iaload, 1) := decs_at DX12_walks_48 12 rfl
theorem dX12_walks_109 : decode cX12_walks 109 = .ok (.aload_n 0, 1) := decs_at DX12_walks_48 13 rfl
theorem dX12_walks_110 : decode cX12_walks 110 = .ok (.getfield 90, 3) := decs_at DX12_walks_48 14 rfl
theorem dX12_walks_113 : decode cX12_walks 113 = .ok (.iload_n 3, 1) := decs_at DX12_walks_48 15 rfl
theorem dX12_walks_114 : decode cX12_walks 114 = .ok (.iaload, 1) := decs_at DX12_walks_48 16 rfl
theorem dX12_walks_115 : decode cX12_walks 115 = .ok (.if_icmp .ne 13, 3) := decs_at DX12_walks_48 17 rfl
theorem dX12_walks_118 : decode cX12_walks 118 = .ok (.aload_n 0, 1) := decs_at DX12_walks_48 18 rfl
theorem dX12_walks_119 : decode cX12_walks 119 = .ok (.dup, 1) := decs_at DX12_walks_48 19 rfl
theorem dX12_walks_120 : decode cX12_walks 120 = .ok (.getfield 359, 3) := decs_at DX12_walks_48 20 rfl
theorem dX12_walks_123 : decode cX12_walks 123 = .ok (.iconst 1, 1) := decs_at DX12_walks_48 21 rfl
theorem dX12_walks_124 : decode cX12_walks 124 = .ok (.iadd, 1) := decs_at DX12_walks_48 22 rfl
theorem dX12_walks_125 : decode cX12_walks 125 = .ok (.putfield 359, 3) := decs_at DX12_walks_48 23 rfl
theorem DX12_walks_72 : decs cX12_walks [(128, .iinc 3 1, 3), (131, .goto (-33), 3), (134, .iinc 2 1, 3), (137, .goto (-49), 3), (140, .iconst 0, 1), (141, .istore_n 2, 1), (142, .iconst 1, 1), (143, .istore_n 3, 1), (144, .iload_n 3, 1), (145, .aload_n 0, 1), (146, .getfield 344, 3), (149, .if_icmp .ge 25, 3), (152, .iload_n 2, 1), (153, .aload_n 0, 1), (154, .getfield 90, 3), (157, .iload_n 3, 1), (158, .iaload, 1), (159, .aload_n 0, 1), (160, .getfield 90, 3), (163, .iconst 0, 1), (164, .iaload, 1), (165, .ixor, 1), (166, .ior, 1), (167, .istore_n 2, 1)] := by unfold decs; decide +kernel
theorem dX12_walks_128 : decode cX12_walks 128 = .ok (.iinc 3 1, 3) := decs_at DX12_walks_72 0 rfl
theorem dX12_walks_131 : decode cX12_walks 131 = .ok (.goto (-33), 3) := decs_at DX12_walks_72 1 rfl
theorem dX12_walks_134 : decode cX12_walks 134 = .ok (.iinc 2 1, 3) := decs_at DX12_walks_72 2 rfl
theorem dX12_walks_137 : decode cX12_walks 137 = .ok (.goto (-49), 3) := decs_at DX12_walks_72 3 rfl
theorem dX12_walks_140 : decode cX12_walks 140 = .ok (.iconst 0, 1) := decs_at DX12_walks_72 4 rfl
theorem dX12_walks_141 : decode cX12_walks 141 = .ok (.istore_n 2, 1) := decs_at DX12_walks_72 5 rfl
theorem dX12_walks_142 : decode cX12_walks 142 = .ok (.iconst 1, 1) := decs_at DX12_walks_72 6 rfl
theorem dX12_walks_143 : decode cX12_walks 143 = .ok (.istore_n 3, 1) := decs_at DX12_walks_72 7 rfl
theorem dX12_walks_144 : decode cX12_walks 144 = .ok (.iload_n 3, 1) := decs_at DX12_walks_72 8 rfl
theorem dX12_walks_145 : decode cX12_walks 145 = .ok (.aload_n 0, 1) := decs_at DX12_walks_72 9 rfl
theorem dX12_walks_146 : decode cX12_walks 146 = .ok (.getfield 344, 3) := decs_at DX12_walks_72 10 rfl
theorem dX12_walks_149 : decode cX12_walks 149 = .ok (.if_icmp .ge 25, 3) := decs_at DX12_walks_72 11 rfl
theorem dX12_walks_152 : decode cX12_walks 152 = .ok (.iload_n 2, 1) := decs_at DX12_walks_72 12 rfl
theorem dX12_walks_153 : decode cX12_walks 153 = .ok (.aload_n 0, 1) := decs_at DX12_walks_72 13 rfl
theorem dX12_walks_154 : decode cX12_walks 154 = .ok (.getfield 90, 3) := decs_at DX12_walks_72 14 rfl
theorem dX12_walks_157 : decode cX12_walks 157 = .ok (.iload_n 3, 1) := decs_at DX12_walks_72 15 rfl
theorem dX12_walks_158 : decode cX12_walks 158 = .ok (.iaload, 1) := decs_at DX12_walks_72 16 rfl
theorem dX12_walks_159 : decode cX12_walks 159 = .ok (.aload_n 0, 1) := decs_at DX12_walks_72 17 rfl
theorem dX12_walks_160 : decode cX12_walks 160 = .ok (.getfield 90, 3) := decs_at DX12_walks_72 18 rfl
theorem dX12_walks_163 : decode cX12_walks 163 = .ok (.iconst 0, 1) := decs_at DX12_walks_72 19 rfl
theorem dX12_walks_164 : decode cX12_walks 164 = .ok (.iaload, 1) := decs_at DX12_walks_72 20 rfl
theorem dX12_walks_165 : decode cX12_walks 165 = .ok (.ixor, 1) := decs_at DX12_walks_72 21 rfl
theorem dX12_walks_166 : decode cX12_walks 166 = .ok (.ior, 1) := decs_at DX12_walks_72 22 rfl
theorem dX12_walks_167 : decode cX12_walks 167 = .ok (.istore_n 2, 1) := decs_at DX12_walks_72 23 rfl
theorem DX12_walks_96 : decs cX12_walks [(168, .iinc 3 1, 3), (171, .goto (-27), 3), (174, .iload_n 2, 1), (175, .istore_n 3, 1), (176, .iconst 0, 1), (177, .istore 4, 2), (179, .iload 4, 2), (181, .iload_n 2, 1), (182, .if_icmp .gt 60, 3), (185, .iload 4, 2), (187, .iload_n 2, 1), (188, .iconst (-1), 1), (189, .ixor, 1), (190, .iand, 1), (191, .ifCond .ne 45, 3), (194, .iload 4, 2), (196, .invokestatic 362, 3), (199, .iload_n 3, 1), (200, .invokestatic 362, 3), (203, .if_icmp .lt 21, 3), (206, .iload 4, 2), (208, .invokestatic 362, 3), (211, .iload_n 3, 1), (212, .invokestatic 362, 3)] := by unfold decs; decide +kernel
theorem dX12_walks_168 : decode cX12_walks 168 = .ok (.iinc 3 1, 3) := decs_at DX12_walks_96 0 rfl
theorem dX12_walks_171 : decode cX12_walks 171 = .ok (.goto (-27), 3) := decs_at DX12_walks_96 1 rfl
theorem dX12_walks_174 : decode cX12_walks 174 = .ok (.iload_n 2, 1) := decs_at DX12_walks_96 2 rfl
theorem dX12_walks_175 : decode cX12_walks 175 = .ok (.istore_n 3, 1) := decs_at DX12_walks_96 3 rfl
theorem dX12_walks_176 : decode cX12_walks 176 = .ok (.iconst 0, 1) := decs_at DX12_walks_96 4 rfl
theorem dX12_walks_177 : decode cX12_walks 177 = .ok (.istore 4, 2) := decs_at DX12_walks_96 5 rfl
theorem dX12_walks_179 : decode cX12_walks 179 = .ok (.iload 4, 2) := decs_at DX12_walks_96 6 rfl
theorem dX12_walks_181 : decode cX12_walks 181 = .ok (.iload_n 2, 1) := decs_at DX12_walks_96 7 rfl
theorem dX12_walks_182 : decode cX12_walks 182 = .ok (.if_icmp .gt 60, 3) := decs_at DX12_walks_96 8 rfl
theorem dX12_walks_185 : decode cX12_walks 185 = .ok (.iload 4, 2) := decs_at DX12_walks_96 9 rfl
theorem dX12_walks_187 : decode cX12_walks 187 = .ok (.iload_n 2, 1) := decs_at DX12_walks_96 10 rfl
theorem dX12_walks_188 : decode cX12_walks 188 = .ok (.iconst (-1), 1) := decs_at DX12_walks_96 11 rfl
theorem dX12_walks_189 : decode cX12_walks 189 = .ok (.ixor, 1) := decs_at DX12_walks_96 12 rfl
theorem dX12_walks_190 : decode cX12_walks 190 = .ok (.iand, 1) := decs_at DX12_walks_96 13 rfl
theorem dX12_walks_191 : decode cX12_walks 191 = .ok (.ifCond .ne 45, 3) := decs_at DX12_walks_96 14 rfl
theorem dX12_walks_194 : decode cX12_walks 194 = .ok (.iload 4, 2) := decs_at DX12_walks_96 15 rfl
theorem dX12_walks_196 : decode cX12_walks 196 = .ok (.invokestatic 362, 3) := decs_at DX12_walks_96 16 rfl
theorem dX12_walks_199 : decode cX12_walks 199 = .ok (.iload_n 3, 1) := decs_at DX12_walks_96 17 rfl
theorem dX12_walks_200 : decode cX12_walks 200 = .ok (.invokestatic 362, 3) := decs_at DX12_walks_96 18 rfl
theorem dX12_walks_203 : decode cX12_walks 203 = .ok (.if_icmp .lt 21, 3) := decs_at DX12_walks_96 19 rfl
theorem dX12_walks_206 : decode cX12_walks 206 = .ok (.iload 4, 2) := decs_at DX12_walks_96 20 rfl
theorem dX12_walks_208 : decode cX12_walks 208 = .ok (.invokestatic 362, 3) := decs_at DX12_walks_96 21 rfl
theorem dX12_walks_211 : decode cX12_walks 211 = .ok (.iload_n 3, 1) := decs_at DX12_walks_96 22 rfl
theorem dX12_walks_212 : decode cX12_walks 212 = .ok (.invokestatic 362, 3) := decs_at DX12_walks_96 23 rfl
theorem DX12_walks_120 : decs cX12_walks [(215, .if_icmp .ne 21, 3), (218, .iload 4, 2), (220, .iload_n 3, 1), (221, .if_icmp .ge 15, 3), (224, .aload_n 0, 1), (225, .iload 4, 2), (227, .invokevirtual 365, 3), (230, .ifCond .eq 6, 3), (233, .iload 4, 2), (235, .istore_n 3, 1), (236, .iinc 4 1, 3), (239, .goto (-60), 3), (242, .aload_n 0, 1), (243, .iconst 1, 1), (244, .putfield 368, 3), (247, .aload_n 0, 1), (248, .iload_n 3, 1), (249, .putfield 371, 3), (252, .iload_n 3, 1), (253, .invokestatic 362, 3), (256, .ireturn, 1)] := by unfold decs; decide +kernel
theorem dX12_walks_215 : decode cX12_walks 215 = .ok (.if_icmp .ne 21, 3) := decs_at DX12_walks_120 0 rfl
theorem dX12_walks_218 : decode cX12_walks 218 = .ok (.iload 4, 2) := decs_at DX12_walks_120 1 rfl
theorem dX12_walks_220 : decode cX12_walks 220 = .ok (.iload_n 3, 1) := decs_at DX12_walks_120 2 rfl
theorem dX12_walks_221 : decode cX12_walks 221 = .ok (.if_icmp .ge 15, 3) := decs_at DX12_walks_120 3 rfl
theorem dX12_walks_224 : decode cX12_walks 224 = .ok (.aload_n 0, 1) := decs_at DX12_walks_120 4 rfl
theorem dX12_walks_225 : decode cX12_walks 225 = .ok (.iload 4, 2) := decs_at DX12_walks_120 5 rfl
theorem dX12_walks_227 : decode cX12_walks 227 = .ok (.invokevirtual 365, 3) := decs_at DX12_walks_120 6 rfl
theorem dX12_walks_230 : decode cX12_walks 230 = .ok (.ifCond .eq 6, 3) := decs_at DX12_walks_120 7 rfl
theorem dX12_walks_233 : decode cX12_walks 233 = .ok (.iload 4, 2) := decs_at DX12_walks_120 8 rfl
theorem dX12_walks_235 : decode cX12_walks 235 = .ok (.istore_n 3, 1) := decs_at DX12_walks_120 9 rfl
theorem dX12_walks_236 : decode cX12_walks 236 = .ok (.iinc 4 1, 3) := decs_at DX12_walks_120 10 rfl
theorem dX12_walks_239 : decode cX12_walks 239 = .ok (.goto (-60), 3) := decs_at DX12_walks_120 11 rfl
theorem dX12_walks_242 : decode cX12_walks 242 = .ok (.aload_n 0, 1) := decs_at DX12_walks_120 12 rfl
theorem dX12_walks_243 : decode cX12_walks 243 = .ok (.iconst 1, 1) := decs_at DX12_walks_120 13 rfl
theorem dX12_walks_244 : decode cX12_walks 244 = .ok (.putfield 368, 3) := decs_at DX12_walks_120 14 rfl
theorem dX12_walks_247 : decode cX12_walks 247 = .ok (.aload_n 0, 1) := decs_at DX12_walks_120 15 rfl
theorem dX12_walks_248 : decode cX12_walks 248 = .ok (.iload_n 3, 1) := decs_at DX12_walks_120 16 rfl
theorem dX12_walks_249 : decode cX12_walks 249 = .ok (.putfield 371, 3) := decs_at DX12_walks_120 17 rfl
theorem dX12_walks_252 : decode cX12_walks 252 = .ok (.iload_n 3, 1) := decs_at DX12_walks_120 18 rfl
theorem dX12_walks_253 : decode cX12_walks 253 = .ok (.invokestatic 362, 3) := decs_at DX12_walks_120 19 rfl
theorem dX12_walks_256 : decode cX12_walks 256 = .ok (.ireturn, 1) := decs_at DX12_walks_120 20 rfl
theorem DX12_walked_0 : decs cX12_walked [(0, .aload_n 0, 1), (1, .iconst 0, 1), (2, .putfield 106, 3), (5, .aload_n 0, 1), (6, .getfield 368, 3), (9, .ifCond .ne 5, 3), (12, .iconst (-1), 1), (13, .ireturn, 1), (14, .iload_n 1, 1), (15, .ifCond .ne 10, 3), (18, .aload_n 0, 1), (19, .getfield 371, 3), (22, .goto 16, 3), (25, .iload_n 1, 1), (26, .iconst 1, 1), (27, .if_icmp .ne 10, 3), (30, .aload_n 0, 1), (31, .getfield 359, 3), (34, .goto 4, 3), (37, .iconst (-1), 1), (38, .ireturn, 1)] := by unfold decs; decide +kernel
theorem dX12_walked_0 : decode cX12_walked 0 = .ok (.aload_n 0, 1) := decs_at DX12_walked_0 0 rfl
theorem dX12_walked_1 : decode cX12_walked 1 = .ok (.iconst 0, 1) := decs_at DX12_walked_0 1 rfl
theorem dX12_walked_2 : decode cX12_walked 2 = .ok (.putfield 106, 3) := decs_at DX12_walked_0 2 rfl
theorem dX12_walked_5 : decode cX12_walked 5 = .ok (.aload_n 0, 1) := decs_at DX12_walked_0 3 rfl
theorem dX12_walked_6 : decode cX12_walked 6 = .ok (.getfield 368, 3) := decs_at DX12_walked_0 4 rfl
theorem dX12_walked_9 : decode cX12_walked 9 = .ok (.ifCond .ne 5, 3) := decs_at DX12_walked_0 5 rfl
theorem dX12_walked_12 : decode cX12_walked 12 = .ok (.iconst (-1), 1) := decs_at DX12_walked_0 6 rfl
theorem dX12_walked_13 : decode cX12_walked 13 = .ok (.ireturn, 1) := decs_at DX12_walked_0 7 rfl
theorem dX12_walked_14 : decode cX12_walked 14 = .ok (.iload_n 1, 1) := decs_at DX12_walked_0 8 rfl
theorem dX12_walked_15 : decode cX12_walked 15 = .ok (.ifCond .ne 10, 3) := decs_at DX12_walked_0 9 rfl
theorem dX12_walked_18 : decode cX12_walked 18 = .ok (.aload_n 0, 1) := decs_at DX12_walked_0 10 rfl
theorem dX12_walked_19 : decode cX12_walked 19 = .ok (.getfield 371, 3) := decs_at DX12_walked_0 11 rfl
theorem dX12_walked_22 : decode cX12_walked 22 = .ok (.goto 16, 3) := decs_at DX12_walked_0 12 rfl
theorem dX12_walked_25 : decode cX12_walked 25 = .ok (.iload_n 1, 1) := decs_at DX12_walked_0 13 rfl
theorem dX12_walked_26 : decode cX12_walked 26 = .ok (.iconst 1, 1) := decs_at DX12_walked_0 14 rfl
theorem dX12_walked_27 : decode cX12_walked 27 = .ok (.if_icmp .ne 10, 3) := decs_at DX12_walked_0 15 rfl
theorem dX12_walked_30 : decode cX12_walked 30 = .ok (.aload_n 0, 1) := decs_at DX12_walked_0 16 rfl
theorem dX12_walked_31 : decode cX12_walked 31 = .ok (.getfield 359, 3) := decs_at DX12_walked_0 17 rfl
theorem dX12_walked_34 : decode cX12_walked 34 = .ok (.goto 4, 3) := decs_at DX12_walked_0 18 rfl
theorem dX12_walked_37 : decode cX12_walked 37 = .ok (.iconst (-1), 1) := decs_at DX12_walked_0 19 rfl
theorem dX12_walked_38 : decode cX12_walked 38 = .ok (.ireturn, 1) := decs_at DX12_walked_0 20 rfl
theorem DX12_wagons_0 : decs cX12_wagons [(0, .aload_n 0, 1), (1, .invokevirtual 201, 3), (4, .istore_n 1, 1), (5, .iload_n 1, 1), (6, .iconst 1, 1), (7, .bipush 16, 2), (9, .invokestatic 162, 3), (12, .ifCond .ne 5, 3), (15, .lconst 0, 1), (16, .lreturn, 1), (17, .lconst 0, 1), (18, .lstore_n 2, 1), (19, .iconst 0, 1), (20, .istore 4, 2), (22, .iload 4, 2), (24, .iload_n 1, 1), (25, .if_icmp .ge 51, 3), (28, .aload_n 0, 1), (29, .getfield 7, 3), (32, .iload 4, 2), (34, .iaload, 1), (35, .bipush 40, 2), (37, .if_icmp .ge 19, 3), (40, .lload_n 2, 1)] := by unfold decs; decide +kernel
theorem dX12_wagons_0 : decode cX12_wagons 0 = .ok (.aload_n 0, 1) := decs_at DX12_wagons_0 0 rfl
theorem dX12_wagons_1 : decode cX12_wagons 1 = .ok (.invokevirtual 201, 3) := decs_at DX12_wagons_0 1 rfl
theorem dX12_wagons_4 : decode cX12_wagons 4 = .ok (.istore_n 1, 1) := decs_at DX12_wagons_0 2 rfl
theorem dX12_wagons_5 : decode cX12_wagons 5 = .ok (.iload_n 1, 1) := decs_at DX12_wagons_0 3 rfl
theorem dX12_wagons_6 : decode cX12_wagons 6 = .ok (.iconst 1, 1) := decs_at DX12_wagons_0 4 rfl
theorem dX12_wagons_7 : decode cX12_wagons 7 = .ok (.bipush 16, 2) := decs_at DX12_wagons_0 5 rfl
theorem dX12_wagons_9 : decode cX12_wagons 9 = .ok (.invokestatic 162, 3) := decs_at DX12_wagons_0 6 rfl
theorem dX12_wagons_12 : decode cX12_wagons 12 = .ok (.ifCond .ne 5, 3) := decs_at DX12_wagons_0 7 rfl
theorem dX12_wagons_15 : decode cX12_wagons 15 = .ok (.lconst 0, 1) := decs_at DX12_wagons_0 8 rfl
theorem dX12_wagons_16 : decode cX12_wagons 16 = .ok (.lreturn, 1) := decs_at DX12_wagons_0 9 rfl
theorem dX12_wagons_17 : decode cX12_wagons 17 = .ok (.lconst 0, 1) := decs_at DX12_wagons_0 10 rfl
theorem dX12_wagons_18 : decode cX12_wagons 18 = .ok (.lstore_n 2, 1) := decs_at DX12_wagons_0 11 rfl
theorem dX12_wagons_19 : decode cX12_wagons 19 = .ok (.iconst 0, 1) := decs_at DX12_wagons_0 12 rfl
theorem dX12_wagons_20 : decode cX12_wagons 20 = .ok (.istore 4, 2) := decs_at DX12_wagons_0 13 rfl
theorem dX12_wagons_22 : decode cX12_wagons 22 = .ok (.iload 4, 2) := decs_at DX12_wagons_0 14 rfl
theorem dX12_wagons_24 : decode cX12_wagons 24 = .ok (.iload_n 1, 1) := decs_at DX12_wagons_0 15 rfl
theorem dX12_wagons_25 : decode cX12_wagons 25 = .ok (.if_icmp .ge 51, 3) := decs_at DX12_wagons_0 16 rfl
theorem dX12_wagons_28 : decode cX12_wagons 28 = .ok (.aload_n 0, 1) := decs_at DX12_wagons_0 17 rfl
theorem dX12_wagons_29 : decode cX12_wagons 29 = .ok (.getfield 7, 3) := decs_at DX12_wagons_0 18 rfl
theorem dX12_wagons_32 : decode cX12_wagons 32 = .ok (.iload 4, 2) := decs_at DX12_wagons_0 19 rfl
theorem dX12_wagons_34 : decode cX12_wagons 34 = .ok (.iaload, 1) := decs_at DX12_wagons_0 20 rfl
theorem dX12_wagons_35 : decode cX12_wagons 35 = .ok (.bipush 40, 2) := decs_at DX12_wagons_0 21 rfl
theorem dX12_wagons_37 : decode cX12_wagons 37 = .ok (.if_icmp .ge 19, 3) := decs_at DX12_wagons_0 22 rfl
theorem dX12_wagons_40 : decode cX12_wagons 40 = .ok (.lload_n 2, 1) := decs_at DX12_wagons_0 23 rfl
theorem DX12_wagons_24 : decs cX12_wagons [(41, .aload_n 0, 1), (42, .getfield 7, 3), (45, .iload 4, 2), (47, .iaload, 1), (48, .lshr, 1), (49, .lconst 1, 1), (50, .land, 1), (51, .lconst 1, 1), (52, .lcmp, 1), (53, .ifCond .ne 5, 3), (56, .lconst 0, 1), (57, .lreturn, 1), (58, .lload_n 2, 1), (59, .lconst 1, 1), (60, .aload_n 0, 1), (61, .getfield 7, 3), (64, .iload 4, 2), (66, .iaload, 1), (67, .lshl, 1), (68, .lor, 1), (69, .lstore_n 2, 1), (70, .iinc 4 1, 3), (73, .goto (-51), 3), (76, .lload_n 2, 1)] := by unfold decs; decide +kernel
theorem dX12_wagons_41 : decode cX12_wagons 41 = .ok (.aload_n 0, 1) := decs_at DX12_wagons_24 0 rfl
theorem dX12_wagons_42 : decode cX12_wagons 42 = .ok (.getfield 7, 3) := decs_at DX12_wagons_24 1 rfl
theorem dX12_wagons_45 : decode cX12_wagons 45 = .ok (.iload 4, 2) := decs_at DX12_wagons_24 2 rfl
theorem dX12_wagons_47 : decode cX12_wagons 47 = .ok (.iaload, 1) := decs_at DX12_wagons_24 3 rfl
theorem dX12_wagons_48 : decode cX12_wagons 48 = .ok (.lshr, 1) := decs_at DX12_wagons_24 4 rfl
theorem dX12_wagons_49 : decode cX12_wagons 49 = .ok (.lconst 1, 1) := decs_at DX12_wagons_24 5 rfl
theorem dX12_wagons_50 : decode cX12_wagons 50 = .ok (.land, 1) := decs_at DX12_wagons_24 6 rfl
theorem dX12_wagons_51 : decode cX12_wagons 51 = .ok (.lconst 1, 1) := decs_at DX12_wagons_24 7 rfl
theorem dX12_wagons_52 : decode cX12_wagons 52 = .ok (.lcmp, 1) := decs_at DX12_wagons_24 8 rfl
theorem dX12_wagons_53 : decode cX12_wagons 53 = .ok (.ifCond .ne 5, 3) := decs_at DX12_wagons_24 9 rfl
theorem dX12_wagons_56 : decode cX12_wagons 56 = .ok (.lconst 0, 1) := decs_at DX12_wagons_24 10 rfl
theorem dX12_wagons_57 : decode cX12_wagons 57 = .ok (.lreturn, 1) := decs_at DX12_wagons_24 11 rfl
theorem dX12_wagons_58 : decode cX12_wagons 58 = .ok (.lload_n 2, 1) := decs_at DX12_wagons_24 12 rfl
theorem dX12_wagons_59 : decode cX12_wagons 59 = .ok (.lconst 1, 1) := decs_at DX12_wagons_24 13 rfl
theorem dX12_wagons_60 : decode cX12_wagons 60 = .ok (.aload_n 0, 1) := decs_at DX12_wagons_24 14 rfl
theorem dX12_wagons_61 : decode cX12_wagons 61 = .ok (.getfield 7, 3) := decs_at DX12_wagons_24 15 rfl
theorem dX12_wagons_64 : decode cX12_wagons 64 = .ok (.iload 4, 2) := decs_at DX12_wagons_24 16 rfl
theorem dX12_wagons_66 : decode cX12_wagons 66 = .ok (.iaload, 1) := decs_at DX12_wagons_24 17 rfl
theorem dX12_wagons_67 : decode cX12_wagons 67 = .ok (.lshl, 1) := decs_at DX12_wagons_24 18 rfl
theorem dX12_wagons_68 : decode cX12_wagons 68 = .ok (.lor, 1) := decs_at DX12_wagons_24 19 rfl
theorem dX12_wagons_69 : decode cX12_wagons 69 = .ok (.lstore_n 2, 1) := decs_at DX12_wagons_24 20 rfl
theorem dX12_wagons_70 : decode cX12_wagons 70 = .ok (.iinc 4 1, 3) := decs_at DX12_wagons_24 21 rfl
theorem dX12_wagons_73 : decode cX12_wagons 73 = .ok (.goto (-51), 3) := decs_at DX12_wagons_24 22 rfl
theorem dX12_wagons_76 : decode cX12_wagons 76 = .ok (.lload_n 2, 1) := decs_at DX12_wagons_24 23 rfl
theorem DX12_wagons_48 : decs cX12_wagons [(77, .lreturn, 1)] := by unfold decs; decide +kernel
theorem dX12_wagons_77 : decode cX12_wagons 77 = .ok (.lreturn, 1) := decs_at DX12_wagons_48 0 rfl
theorem DX12_day_0 : decs cX12_day [(0, .aload_n 0, 1), (1, .iconst 0, 1), (2, .putfield 106, 3), (5, .aload_n 0, 1), (6, .invokevirtual 374, 3), (9, .lstore_n 2, 1), (10, .lload_n 2, 1), (11, .lconst 0, 1), (12, .lcmp, 1), (13, .ifCond .eq 12, 3), (16, .aload_n 0, 1), (17, .getfield 378, 3), (20, .bipush 40, 2), (22, .if_icmp .ne 5, 3), (25, .iconst (-1), 1), (26, .ireturn, 1), (27, .aload_n 0, 1), (28, .getfield 93, 3), (31, .aload_n 0, 1), (32, .getfield 378, 3), (35, .lload_n 2, 1), (36, .lastore, 1), (37, .aload_n 0, 1), (38, .getfield 100, 3)] := by unfold decs; decide +kernel
theorem dX12_day_0 : decode cX12_day 0 = .ok (.aload_n 0, 1) := decs_at DX12_day_0 0 rfl
theorem dX12_day_1 : decode cX12_day 1 = .ok (.iconst 0, 1) := decs_at DX12_day_0 1 rfl
theorem dX12_day_2 : decode cX12_day 2 = .ok (.putfield 106, 3) := decs_at DX12_day_0 2 rfl
theorem dX12_day_5 : decode cX12_day 5 = .ok (.aload_n 0, 1) := decs_at DX12_day_0 3 rfl
theorem dX12_day_6 : decode cX12_day 6 = .ok (.invokevirtual 374, 3) := decs_at DX12_day_0 4 rfl
theorem dX12_day_9 : decode cX12_day 9 = .ok (.lstore_n 2, 1) := decs_at DX12_day_0 5 rfl
theorem dX12_day_10 : decode cX12_day 10 = .ok (.lload_n 2, 1) := decs_at DX12_day_0 6 rfl
theorem dX12_day_11 : decode cX12_day 11 = .ok (.lconst 0, 1) := decs_at DX12_day_0 7 rfl
theorem dX12_day_12 : decode cX12_day 12 = .ok (.lcmp, 1) := decs_at DX12_day_0 8 rfl
theorem dX12_day_13 : decode cX12_day 13 = .ok (.ifCond .eq 12, 3) := decs_at DX12_day_0 9 rfl
theorem dX12_day_16 : decode cX12_day 16 = .ok (.aload_n 0, 1) := decs_at DX12_day_0 10 rfl
theorem dX12_day_17 : decode cX12_day 17 = .ok (.getfield 378, 3) := decs_at DX12_day_0 11 rfl
theorem dX12_day_20 : decode cX12_day 20 = .ok (.bipush 40, 2) := decs_at DX12_day_0 12 rfl
theorem dX12_day_22 : decode cX12_day 22 = .ok (.if_icmp .ne 5, 3) := decs_at DX12_day_0 13 rfl
theorem dX12_day_25 : decode cX12_day 25 = .ok (.iconst (-1), 1) := decs_at DX12_day_0 14 rfl
theorem dX12_day_26 : decode cX12_day 26 = .ok (.ireturn, 1) := decs_at DX12_day_0 15 rfl
theorem dX12_day_27 : decode cX12_day 27 = .ok (.aload_n 0, 1) := decs_at DX12_day_0 16 rfl
theorem dX12_day_28 : decode cX12_day 28 = .ok (.getfield 93, 3) := decs_at DX12_day_0 17 rfl
theorem dX12_day_31 : decode cX12_day 31 = .ok (.aload_n 0, 1) := decs_at DX12_day_0 18 rfl
theorem dX12_day_32 : decode cX12_day 32 = .ok (.getfield 378, 3) := decs_at DX12_day_0 19 rfl
theorem dX12_day_35 : decode cX12_day 35 = .ok (.lload_n 2, 1) := decs_at DX12_day_0 20 rfl
theorem dX12_day_36 : decode cX12_day 36 = .ok (.lastore, 1) := decs_at DX12_day_0 21 rfl
theorem dX12_day_37 : decode cX12_day 37 = .ok (.aload_n 0, 1) := decs_at DX12_day_0 22 rfl
theorem dX12_day_38 : decode cX12_day 38 = .ok (.getfield 100, 3) := decs_at DX12_day_0 23 rfl
theorem DX12_day_24 : decs cX12_day [(41, .aload_n 0, 1), (42, .getfield 378, 3), (45, .iload_n 1, 1), (46, .bastore, 1), (47, .aload_n 0, 1), (48, .getfield 97, 3), (51, .aload_n 0, 1), (52, .getfield 378, 3), (55, .lconst 0, 1), (56, .lastore, 1), (57, .aload_n 0, 1), (58, .dup, 1), (59, .getfield 378, 3), (62, .iconst 1, 1), (63, .iadd, 1), (64, .putfield 378, 3), (67, .aload_n 0, 1), (68, .getfield 378, 3), (71, .iconst 1, 1), (72, .isub, 1), (73, .ireturn, 1)] := by unfold decs; decide +kernel
theorem dX12_day_41 : decode cX12_day 41 = .ok (.aload_n 0, 1) := decs_at DX12_day_24 0 rfl
theorem dX12_day_42 : decode cX12_day 42 = .ok (.getfield 378, 3) := decs_at DX12_day_24 1 rfl
theorem dX12_day_45 : decode cX12_day 45 = .ok (.iload_n 1, 1) := decs_at DX12_day_24 2 rfl
theorem dX12_day_46 : decode cX12_day 46 = .ok (.bastore, 1) := decs_at DX12_day_24 3 rfl
theorem dX12_day_47 : decode cX12_day 47 = .ok (.aload_n 0, 1) := decs_at DX12_day_24 4 rfl
theorem dX12_day_48 : decode cX12_day 48 = .ok (.getfield 97, 3) := decs_at DX12_day_24 5 rfl
theorem dX12_day_51 : decode cX12_day 51 = .ok (.aload_n 0, 1) := decs_at DX12_day_24 6 rfl
theorem dX12_day_52 : decode cX12_day 52 = .ok (.getfield 378, 3) := decs_at DX12_day_24 7 rfl
theorem dX12_day_55 : decode cX12_day 55 = .ok (.lconst 0, 1) := decs_at DX12_day_24 8 rfl
theorem dX12_day_56 : decode cX12_day 56 = .ok (.lastore, 1) := decs_at DX12_day_24 9 rfl
theorem dX12_day_57 : decode cX12_day 57 = .ok (.aload_n 0, 1) := decs_at DX12_day_24 10 rfl
theorem dX12_day_58 : decode cX12_day 58 = .ok (.dup, 1) := decs_at DX12_day_24 11 rfl
theorem dX12_day_59 : decode cX12_day 59 = .ok (.getfield 378, 3) := decs_at DX12_day_24 12 rfl
theorem dX12_day_62 : decode cX12_day 62 = .ok (.iconst 1, 1) := decs_at DX12_day_24 13 rfl
theorem dX12_day_63 : decode cX12_day 63 = .ok (.iadd, 1) := decs_at DX12_day_24 14 rfl
theorem dX12_day_64 : decode cX12_day 64 = .ok (.putfield 378, 3) := decs_at DX12_day_24 15 rfl
theorem dX12_day_67 : decode cX12_day 67 = .ok (.aload_n 0, 1) := decs_at DX12_day_24 16 rfl
theorem dX12_day_68 : decode cX12_day 68 = .ok (.getfield 378, 3) := decs_at DX12_day_24 17 rfl
theorem dX12_day_71 : decode cX12_day 71 = .ok (.iconst 1, 1) := decs_at DX12_day_24 18 rfl
theorem dX12_day_72 : decode cX12_day 72 = .ok (.isub, 1) := decs_at DX12_day_24 19 rfl
theorem dX12_day_73 : decode cX12_day 73 = .ok (.ireturn, 1) := decs_at DX12_day_24 20 rfl
theorem DX12_mended_0 : decs cX12_mended [(0, .aload_n 0, 1), (1, .iconst 0, 1), (2, .putfield 106, 3), (5, .iload_n 1, 1), (6, .iconst 0, 1), (7, .bipush 39, 2), (9, .invokestatic 162, 3), (12, .ifCond .eq 10, 3), (15, .aload_n 0, 1), (16, .getfield 378, 3), (19, .ifCond .ne 5, 3), (22, .iconst 0, 1), (23, .ireturn, 1), (24, .aload_n 0, 1), (25, .getfield 97, 3), (28, .aload_n 0, 1), (29, .getfield 378, 3), (32, .iconst 1, 1), (33, .isub, 1), (34, .dup2, 1), (35, .laload, 1), (36, .lconst 1, 1), (37, .iload_n 1, 1), (38, .lshl, 1)] := by unfold decs; decide +kernel
theorem dX12_mended_0 : decode cX12_mended 0 = .ok (.aload_n 0, 1) := decs_at DX12_mended_0 0 rfl
theorem dX12_mended_1 : decode cX12_mended 1 = .ok (.iconst 0, 1) := decs_at DX12_mended_0 1 rfl
theorem dX12_mended_2 : decode cX12_mended 2 = .ok (.putfield 106, 3) := decs_at DX12_mended_0 2 rfl
theorem dX12_mended_5 : decode cX12_mended 5 = .ok (.iload_n 1, 1) := decs_at DX12_mended_0 3 rfl
theorem dX12_mended_6 : decode cX12_mended 6 = .ok (.iconst 0, 1) := decs_at DX12_mended_0 4 rfl
theorem dX12_mended_7 : decode cX12_mended 7 = .ok (.bipush 39, 2) := decs_at DX12_mended_0 5 rfl
theorem dX12_mended_9 : decode cX12_mended 9 = .ok (.invokestatic 162, 3) := decs_at DX12_mended_0 6 rfl
theorem dX12_mended_12 : decode cX12_mended 12 = .ok (.ifCond .eq 10, 3) := decs_at DX12_mended_0 7 rfl
theorem dX12_mended_15 : decode cX12_mended 15 = .ok (.aload_n 0, 1) := decs_at DX12_mended_0 8 rfl
theorem dX12_mended_16 : decode cX12_mended 16 = .ok (.getfield 378, 3) := decs_at DX12_mended_0 9 rfl
theorem dX12_mended_19 : decode cX12_mended 19 = .ok (.ifCond .ne 5, 3) := decs_at DX12_mended_0 10 rfl
theorem dX12_mended_22 : decode cX12_mended 22 = .ok (.iconst 0, 1) := decs_at DX12_mended_0 11 rfl
theorem dX12_mended_23 : decode cX12_mended 23 = .ok (.ireturn, 1) := decs_at DX12_mended_0 12 rfl
theorem dX12_mended_24 : decode cX12_mended 24 = .ok (.aload_n 0, 1) := decs_at DX12_mended_0 13 rfl
theorem dX12_mended_25 : decode cX12_mended 25 = .ok (.getfield 97, 3) := decs_at DX12_mended_0 14 rfl
theorem dX12_mended_28 : decode cX12_mended 28 = .ok (.aload_n 0, 1) := decs_at DX12_mended_0 15 rfl
theorem dX12_mended_29 : decode cX12_mended 29 = .ok (.getfield 378, 3) := decs_at DX12_mended_0 16 rfl
theorem dX12_mended_32 : decode cX12_mended 32 = .ok (.iconst 1, 1) := decs_at DX12_mended_0 17 rfl
theorem dX12_mended_33 : decode cX12_mended 33 = .ok (.isub, 1) := decs_at DX12_mended_0 18 rfl
theorem dX12_mended_34 : decode cX12_mended 34 = .ok (.dup2, 1) := decs_at DX12_mended_0 19 rfl
theorem dX12_mended_35 : decode cX12_mended 35 = .ok (.laload, 1) := decs_at DX12_mended_0 20 rfl
theorem dX12_mended_36 : decode cX12_mended 36 = .ok (.lconst 1, 1) := decs_at DX12_mended_0 21 rfl
theorem dX12_mended_37 : decode cX12_mended 37 = .ok (.iload_n 1, 1) := decs_at DX12_mended_0 22 rfl
theorem dX12_mended_38 : decode cX12_mended 38 = .ok (.lshl, 1) := decs_at DX12_mended_0 23 rfl
theorem DX12_mended_24 : decs cX12_mended [(39, .lor, 1), (40, .lastore, 1), (41, .iconst 1, 1), (42, .ireturn, 1)] := by unfold decs; decide +kernel
theorem dX12_mended_39 : decode cX12_mended 39 = .ok (.lor, 1) := decs_at DX12_mended_24 0 rfl
theorem dX12_mended_40 : decode cX12_mended 40 = .ok (.lastore, 1) := decs_at DX12_mended_24 1 rfl
theorem dX12_mended_41 : decode cX12_mended 41 = .ok (.iconst 1, 1) := decs_at DX12_mended_24 2 rfl
theorem dX12_mended_42 : decode cX12_mended 42 = .ok (.ireturn, 1) := decs_at DX12_mended_24 3 rfl
theorem DX12_makes_0 : decs cX12_makes [(0, .iconst 0, 1), (1, .istore 4, 2), (3, .iconst 0, 1), (4, .istore 5, 2), (6, .iconst 0, 1), (7, .istore 6, 2), (9, .iload 6, 2), (11, .iload_n 3, 1), (12, .if_icmp .gt 87, 3), (15, .iload 6, 2), (17, .iload_n 2, 1), (18, .if_icmp .ne 6, 3), (21, .iconst 1, 1), (22, .istore 4, 2), (24, .iload 4, 2), (26, .ifCond .eq 23, 3), (29, .aload_n 0, 1), (30, .getfield 93, 3), (33, .iload 6, 2), (35, .laload, 1), (36, .iload_n 1, 1), (37, .lshr, 1), (38, .lconst 1, 1), (39, .land, 1)] := by unfold decs; decide +kernel
theorem dX12_makes_0 : decode cX12_makes 0 = .ok (.iconst 0, 1) := decs_at DX12_makes_0 0 rfl
theorem dX12_makes_1 : decode cX12_makes 1 = .ok (.istore 4, 2) := decs_at DX12_makes_0 1 rfl
theorem dX12_makes_3 : decode cX12_makes 3 = .ok (.iconst 0, 1) := decs_at DX12_makes_0 2 rfl
theorem dX12_makes_4 : decode cX12_makes 4 = .ok (.istore 5, 2) := decs_at DX12_makes_0 3 rfl
theorem dX12_makes_6 : decode cX12_makes 6 = .ok (.iconst 0, 1) := decs_at DX12_makes_0 4 rfl
theorem dX12_makes_7 : decode cX12_makes 7 = .ok (.istore 6, 2) := decs_at DX12_makes_0 5 rfl
theorem dX12_makes_9 : decode cX12_makes 9 = .ok (.iload 6, 2) := decs_at DX12_makes_0 6 rfl
theorem dX12_makes_11 : decode cX12_makes 11 = .ok (.iload_n 3, 1) := decs_at DX12_makes_0 7 rfl
theorem dX12_makes_12 : decode cX12_makes 12 = .ok (.if_icmp .gt 87, 3) := decs_at DX12_makes_0 8 rfl
theorem dX12_makes_15 : decode cX12_makes 15 = .ok (.iload 6, 2) := decs_at DX12_makes_0 9 rfl
theorem dX12_makes_17 : decode cX12_makes 17 = .ok (.iload_n 2, 1) := decs_at DX12_makes_0 10 rfl
theorem dX12_makes_18 : decode cX12_makes 18 = .ok (.if_icmp .ne 6, 3) := decs_at DX12_makes_0 11 rfl
theorem dX12_makes_21 : decode cX12_makes 21 = .ok (.iconst 1, 1) := decs_at DX12_makes_0 12 rfl
theorem dX12_makes_22 : decode cX12_makes 22 = .ok (.istore 4, 2) := decs_at DX12_makes_0 13 rfl
theorem dX12_makes_24 : decode cX12_makes 24 = .ok (.iload 4, 2) := decs_at DX12_makes_0 14 rfl
theorem dX12_makes_26 : decode cX12_makes 26 = .ok (.ifCond .eq 23, 3) := decs_at DX12_makes_0 15 rfl
theorem dX12_makes_29 : decode cX12_makes 29 = .ok (.aload_n 0, 1) := decs_at DX12_makes_0 16 rfl
theorem dX12_makes_30 : decode cX12_makes 30 = .ok (.getfield 93, 3) := decs_at DX12_makes_0 17 rfl
theorem dX12_makes_33 : decode cX12_makes 33 = .ok (.iload 6, 2) := decs_at DX12_makes_0 18 rfl
theorem dX12_makes_35 : decode cX12_makes 35 = .ok (.laload, 1) := decs_at DX12_makes_0 19 rfl
theorem dX12_makes_36 : decode cX12_makes 36 = .ok (.iload_n 1, 1) := decs_at DX12_makes_0 20 rfl
theorem dX12_makes_37 : decode cX12_makes 37 = .ok (.lshr, 1) := decs_at DX12_makes_0 21 rfl
theorem dX12_makes_38 : decode cX12_makes 38 = .ok (.lconst 1, 1) := decs_at DX12_makes_0 22 rfl
theorem dX12_makes_39 : decode cX12_makes 39 = .ok (.land, 1) := decs_at DX12_makes_0 23 rfl
theorem DX12_makes_24 : decs cX12_makes [(40, .lconst 1, 1), (41, .lcmp, 1), (42, .ifCond .ne 7, 3), (45, .iconst 1, 1), (46, .goto 4, 3), (49, .iconst 0, 1), (50, .istore 7, 2), (52, .iload 7, 2), (54, .aload_n 0, 1), (55, .getfield 100, 3), (58, .iload 6, 2), (60, .baload, 1), (61, .if_icmp .eq 5, 3), (64, .iconst 0, 1), (65, .ireturn, 1), (66, .iload 4, 2), (68, .ifCond .eq 25, 3), (71, .aload_n 0, 1), (72, .getfield 97, 3), (75, .iload 6, 2), (77, .laload, 1), (78, .iload_n 1, 1), (79, .lshr, 1), (80, .lconst 1, 1)] := by unfold decs; decide +kernel
theorem dX12_makes_40 : decode cX12_makes 40 = .ok (.lconst 1, 1) := decs_at DX12_makes_24 0 rfl
theorem dX12_makes_41 : decode cX12_makes 41 = .ok (.lcmp, 1) := decs_at DX12_makes_24 1 rfl
theorem dX12_makes_42 : decode cX12_makes 42 = .ok (.ifCond .ne 7, 3) := decs_at DX12_makes_24 2 rfl
theorem dX12_makes_45 : decode cX12_makes 45 = .ok (.iconst 1, 1) := decs_at DX12_makes_24 3 rfl
theorem dX12_makes_46 : decode cX12_makes 46 = .ok (.goto 4, 3) := decs_at DX12_makes_24 4 rfl
theorem dX12_makes_49 : decode cX12_makes 49 = .ok (.iconst 0, 1) := decs_at DX12_makes_24 5 rfl
theorem dX12_makes_50 : decode cX12_makes 50 = .ok (.istore 7, 2) := decs_at DX12_makes_24 6 rfl
theorem dX12_makes_52 : decode cX12_makes 52 = .ok (.iload 7, 2) := decs_at DX12_makes_24 7 rfl
theorem dX12_makes_54 : decode cX12_makes 54 = .ok (.aload_n 0, 1) := decs_at DX12_makes_24 8 rfl
theorem dX12_makes_55 : decode cX12_makes 55 = .ok (.getfield 100, 3) := decs_at DX12_makes_24 9 rfl
theorem dX12_makes_58 : decode cX12_makes 58 = .ok (.iload 6, 2) := decs_at DX12_makes_24 10 rfl
theorem dX12_makes_60 : decode cX12_makes 60 = .ok (.baload, 1) := decs_at DX12_makes_24 11 rfl
theorem dX12_makes_61 : decode cX12_makes 61 = .ok (.if_icmp .eq 5, 3) := decs_at DX12_makes_24 12 rfl
theorem dX12_makes_64 : decode cX12_makes 64 = .ok (.iconst 0, 1) := decs_at DX12_makes_24 13 rfl
theorem dX12_makes_65 : decode cX12_makes 65 = .ok (.ireturn, 1) := decs_at DX12_makes_24 14 rfl
theorem dX12_makes_66 : decode cX12_makes 66 = .ok (.iload 4, 2) := decs_at DX12_makes_24 15 rfl
theorem dX12_makes_68 : decode cX12_makes 68 = .ok (.ifCond .eq 25, 3) := decs_at DX12_makes_24 16 rfl
theorem dX12_makes_71 : decode cX12_makes 71 = .ok (.aload_n 0, 1) := decs_at DX12_makes_24 17 rfl
theorem dX12_makes_72 : decode cX12_makes 72 = .ok (.getfield 97, 3) := decs_at DX12_makes_24 18 rfl
theorem dX12_makes_75 : decode cX12_makes 75 = .ok (.iload 6, 2) := decs_at DX12_makes_24 19 rfl
theorem dX12_makes_77 : decode cX12_makes 77 = .ok (.laload, 1) := decs_at DX12_makes_24 20 rfl
theorem dX12_makes_78 : decode cX12_makes 78 = .ok (.iload_n 1, 1) := decs_at DX12_makes_24 21 rfl
theorem dX12_makes_79 : decode cX12_makes 79 = .ok (.lshr, 1) := decs_at DX12_makes_24 22 rfl
theorem dX12_makes_80 : decode cX12_makes 80 = .ok (.lconst 1, 1) := decs_at DX12_makes_24 23 rfl
theorem DX12_makes_48 : decs cX12_makes [(81, .land, 1), (82, .lconst 1, 1), (83, .lcmp, 1), (84, .ifCond .ne 9, 3), (87, .iconst 0, 1), (88, .istore 4, 2), (90, .iconst 1, 1), (91, .istore 5, 2), (93, .iinc 6 1, 3), (96, .goto (-87), 3), (99, .iload 4, 2), (101, .ifCond .ne 8, 3), (104, .iload 5, 2), (106, .ifCond .eq 7, 3), (109, .iconst 1, 1), (110, .goto 4, 3), (113, .iconst 0, 1), (114, .ireturn, 1)] := by unfold decs; decide +kernel
theorem dX12_makes_81 : decode cX12_makes 81 = .ok (.land, 1) := decs_at DX12_makes_48 0 rfl
theorem dX12_makes_82 : decode cX12_makes 82 = .ok (.lconst 1, 1) := decs_at DX12_makes_48 1 rfl
theorem dX12_makes_83 : decode cX12_makes 83 = .ok (.lcmp, 1) := decs_at DX12_makes_48 2 rfl
theorem dX12_makes_84 : decode cX12_makes 84 = .ok (.ifCond .ne 9, 3) := decs_at DX12_makes_48 3 rfl
theorem dX12_makes_87 : decode cX12_makes 87 = .ok (.iconst 0, 1) := decs_at DX12_makes_48 4 rfl
theorem dX12_makes_88 : decode cX12_makes 88 = .ok (.istore 4, 2) := decs_at DX12_makes_48 5 rfl
theorem dX12_makes_90 : decode cX12_makes 90 = .ok (.iconst 1, 1) := decs_at DX12_makes_48 6 rfl
theorem dX12_makes_91 : decode cX12_makes 91 = .ok (.istore 5, 2) := decs_at DX12_makes_48 7 rfl
theorem dX12_makes_93 : decode cX12_makes 93 = .ok (.iinc 6 1, 3) := decs_at DX12_makes_48 8 rfl
theorem dX12_makes_96 : decode cX12_makes 96 = .ok (.goto (-87), 3) := decs_at DX12_makes_48 9 rfl
theorem dX12_makes_99 : decode cX12_makes 99 = .ok (.iload 4, 2) := decs_at DX12_makes_48 10 rfl
theorem dX12_makes_101 : decode cX12_makes 101 = .ok (.ifCond .ne 8, 3) := decs_at DX12_makes_48 11 rfl
theorem dX12_makes_104 : decode cX12_makes 104 = .ok (.iload 5, 2) := decs_at DX12_makes_48 12 rfl
theorem dX12_makes_106 : decode cX12_makes 106 = .ok (.ifCond .eq 7, 3) := decs_at DX12_makes_48 13 rfl
theorem dX12_makes_109 : decode cX12_makes 109 = .ok (.iconst 1, 1) := decs_at DX12_makes_48 14 rfl
theorem dX12_makes_110 : decode cX12_makes 110 = .ok (.goto 4, 3) := decs_at DX12_makes_48 15 rfl
theorem dX12_makes_113 : decode cX12_makes 113 = .ok (.iconst 0, 1) := decs_at DX12_makes_48 16 rfl
theorem dX12_makes_114 : decode cX12_makes 114 = .ok (.ireturn, 1) := decs_at DX12_makes_48 17 rfl
theorem DX12_latest_0 : decs cX12_latest [(0, .iload_n 2, 1), (1, .istore_n 3, 1), (2, .iload_n 3, 1), (3, .ifCond .lt 21, 3), (6, .aload_n 0, 1), (7, .iload_n 1, 1), (8, .iload_n 3, 1), (9, .iload_n 2, 1), (10, .invokevirtual 381, 3), (13, .ifCond .eq 5, 3), (16, .iload_n 3, 1), (17, .ireturn, 1), (18, .iinc 3 (-1), 3), (21, .goto (-19), 3), (24, .iconst (-1), 1), (25, .ireturn, 1)] := by unfold decs; decide +kernel
theorem dX12_latest_0 : decode cX12_latest 0 = .ok (.iload_n 2, 1) := decs_at DX12_latest_0 0 rfl
theorem dX12_latest_1 : decode cX12_latest 1 = .ok (.istore_n 3, 1) := decs_at DX12_latest_0 1 rfl
theorem dX12_latest_2 : decode cX12_latest 2 = .ok (.iload_n 3, 1) := decs_at DX12_latest_0 2 rfl
theorem dX12_latest_3 : decode cX12_latest 3 = .ok (.ifCond .lt 21, 3) := decs_at DX12_latest_0 3 rfl
theorem dX12_latest_6 : decode cX12_latest 6 = .ok (.aload_n 0, 1) := decs_at DX12_latest_0 4 rfl
theorem dX12_latest_7 : decode cX12_latest 7 = .ok (.iload_n 1, 1) := decs_at DX12_latest_0 5 rfl
theorem dX12_latest_8 : decode cX12_latest 8 = .ok (.iload_n 3, 1) := decs_at DX12_latest_0 6 rfl
theorem dX12_latest_9 : decode cX12_latest 9 = .ok (.iload_n 2, 1) := decs_at DX12_latest_0 7 rfl
theorem dX12_latest_10 : decode cX12_latest 10 = .ok (.invokevirtual 381, 3) := decs_at DX12_latest_0 8 rfl
theorem dX12_latest_13 : decode cX12_latest 13 = .ok (.ifCond .eq 5, 3) := decs_at DX12_latest_0 9 rfl
theorem dX12_latest_16 : decode cX12_latest 16 = .ok (.iload_n 3, 1) := decs_at DX12_latest_0 10 rfl
theorem dX12_latest_17 : decode cX12_latest 17 = .ok (.ireturn, 1) := decs_at DX12_latest_0 11 rfl
theorem dX12_latest_18 : decode cX12_latest 18 = .ok (.iinc 3 (-1), 3) := decs_at DX12_latest_0 12 rfl
theorem dX12_latest_21 : decode cX12_latest 21 = .ok (.goto (-19), 3) := decs_at DX12_latest_0 13 rfl
theorem dX12_latest_24 : decode cX12_latest 24 = .ok (.iconst (-1), 1) := decs_at DX12_latest_0 14 rfl
theorem dX12_latest_25 : decode cX12_latest 25 = .ok (.ireturn, 1) := decs_at DX12_latest_0 15 rfl
theorem DX12_suspects_0 : decs cX12_suspects [(0, .aload_n 0, 1), (1, .iconst 0, 1), (2, .putfield 106, 3), (5, .iload_n 1, 1), (6, .ifCond .lt 11, 3), (9, .iload_n 1, 1), (10, .aload_n 0, 1), (11, .getfield 378, 3), (14, .if_icmp .lt 5, 3), (17, .iconst (-1), 1), (18, .ireturn, 1), (19, .aload_n 0, 1), (20, .iconst 0, 1), (21, .putfield 384, 3), (24, .iconst 0, 1), (25, .istore_n 2, 1), (26, .iload_n 2, 1), (27, .bipush 40, 2), (29, .if_icmp .ge 42, 3), (32, .aload_n 0, 1), (33, .iload_n 2, 1), (34, .iload_n 1, 1), (35, .invokevirtual 387, 3), (38, .iconst (-1), 1)] := by unfold decs; decide +kernel
theorem dX12_suspects_0 : decode cX12_suspects 0 = .ok (.aload_n 0, 1) := decs_at DX12_suspects_0 0 rfl
theorem dX12_suspects_1 : decode cX12_suspects 1 = .ok (.iconst 0, 1) := decs_at DX12_suspects_0 1 rfl
theorem dX12_suspects_2 : decode cX12_suspects 2 = .ok (.putfield 106, 3) := decs_at DX12_suspects_0 2 rfl
theorem dX12_suspects_5 : decode cX12_suspects 5 = .ok (.iload_n 1, 1) := decs_at DX12_suspects_0 3 rfl
theorem dX12_suspects_6 : decode cX12_suspects 6 = .ok (.ifCond .lt 11, 3) := decs_at DX12_suspects_0 4 rfl
theorem dX12_suspects_9 : decode cX12_suspects 9 = .ok (.iload_n 1, 1) := decs_at DX12_suspects_0 5 rfl
theorem dX12_suspects_10 : decode cX12_suspects 10 = .ok (.aload_n 0, 1) := decs_at DX12_suspects_0 6 rfl
theorem dX12_suspects_11 : decode cX12_suspects 11 = .ok (.getfield 378, 3) := decs_at DX12_suspects_0 7 rfl
theorem dX12_suspects_14 : decode cX12_suspects 14 = .ok (.if_icmp .lt 5, 3) := decs_at DX12_suspects_0 8 rfl
theorem dX12_suspects_17 : decode cX12_suspects 17 = .ok (.iconst (-1), 1) := decs_at DX12_suspects_0 9 rfl
theorem dX12_suspects_18 : decode cX12_suspects 18 = .ok (.ireturn, 1) := decs_at DX12_suspects_0 10 rfl
theorem dX12_suspects_19 : decode cX12_suspects 19 = .ok (.aload_n 0, 1) := decs_at DX12_suspects_0 11 rfl
theorem dX12_suspects_20 : decode cX12_suspects 20 = .ok (.iconst 0, 1) := decs_at DX12_suspects_0 12 rfl
theorem dX12_suspects_21 : decode cX12_suspects 21 = .ok (.putfield 384, 3) := decs_at DX12_suspects_0 13 rfl
theorem dX12_suspects_24 : decode cX12_suspects 24 = .ok (.iconst 0, 1) := decs_at DX12_suspects_0 14 rfl
theorem dX12_suspects_25 : decode cX12_suspects 25 = .ok (.istore_n 2, 1) := decs_at DX12_suspects_0 15 rfl
theorem dX12_suspects_26 : decode cX12_suspects 26 = .ok (.iload_n 2, 1) := decs_at DX12_suspects_0 16 rfl
theorem dX12_suspects_27 : decode cX12_suspects 27 = .ok (.bipush 40, 2) := decs_at DX12_suspects_0 17 rfl
theorem dX12_suspects_29 : decode cX12_suspects 29 = .ok (.if_icmp .ge 42, 3) := decs_at DX12_suspects_0 18 rfl
theorem dX12_suspects_32 : decode cX12_suspects 32 = .ok (.aload_n 0, 1) := decs_at DX12_suspects_0 19 rfl
theorem dX12_suspects_33 : decode cX12_suspects 33 = .ok (.iload_n 2, 1) := decs_at DX12_suspects_0 20 rfl
theorem dX12_suspects_34 : decode cX12_suspects 34 = .ok (.iload_n 1, 1) := decs_at DX12_suspects_0 21 rfl
theorem dX12_suspects_35 : decode cX12_suspects 35 = .ok (.invokevirtual 387, 3) := decs_at DX12_suspects_0 22 rfl
theorem dX12_suspects_38 : decode cX12_suspects 38 = .ok (.iconst (-1), 1) := decs_at DX12_suspects_0 23 rfl
theorem DX12_suspects_24 : decs cX12_suspects [(39, .if_icmp .ne 6, 3), (42, .goto 23, 3), (45, .aload_n 0, 1), (46, .getfield 103, 3), (49, .aload_n 0, 1), (50, .getfield 384, 3), (53, .iload_n 2, 1), (54, .iastore, 1), (55, .aload_n 0, 1), (56, .dup, 1), (57, .getfield 384, 3), (60, .iconst 1, 1), (61, .iadd, 1), (62, .putfield 384, 3), (65, .iinc 2 1, 3), (68, .goto (-42), 3), (71, .aload_n 0, 1), (72, .getfield 384, 3), (75, .ireturn, 1)] := by unfold decs; decide +kernel
theorem dX12_suspects_39 : decode cX12_suspects 39 = .ok (.if_icmp .ne 6, 3) := decs_at DX12_suspects_24 0 rfl
theorem dX12_suspects_42 : decode cX12_suspects 42 = .ok (.goto 23, 3) := decs_at DX12_suspects_24 1 rfl
theorem dX12_suspects_45 : decode cX12_suspects 45 = .ok (.aload_n 0, 1) := decs_at DX12_suspects_24 2 rfl
theorem dX12_suspects_46 : decode cX12_suspects 46 = .ok (.getfield 103, 3) := decs_at DX12_suspects_24 3 rfl
theorem dX12_suspects_49 : decode cX12_suspects 49 = .ok (.aload_n 0, 1) := decs_at DX12_suspects_24 4 rfl
theorem dX12_suspects_50 : decode cX12_suspects 50 = .ok (.getfield 384, 3) := decs_at DX12_suspects_24 5 rfl
theorem dX12_suspects_53 : decode cX12_suspects 53 = .ok (.iload_n 2, 1) := decs_at DX12_suspects_24 6 rfl
theorem dX12_suspects_54 : decode cX12_suspects 54 = .ok (.iastore, 1) := decs_at DX12_suspects_24 7 rfl
theorem dX12_suspects_55 : decode cX12_suspects 55 = .ok (.aload_n 0, 1) := decs_at DX12_suspects_24 8 rfl
theorem dX12_suspects_56 : decode cX12_suspects 56 = .ok (.dup, 1) := decs_at DX12_suspects_24 9 rfl
theorem dX12_suspects_57 : decode cX12_suspects 57 = .ok (.getfield 384, 3) := decs_at DX12_suspects_24 10 rfl
theorem dX12_suspects_60 : decode cX12_suspects 60 = .ok (.iconst 1, 1) := decs_at DX12_suspects_24 11 rfl
theorem dX12_suspects_61 : decode cX12_suspects 61 = .ok (.iadd, 1) := decs_at DX12_suspects_24 12 rfl
theorem dX12_suspects_62 : decode cX12_suspects 62 = .ok (.putfield 384, 3) := decs_at DX12_suspects_24 13 rfl
theorem dX12_suspects_65 : decode cX12_suspects 65 = .ok (.iinc 2 1, 3) := decs_at DX12_suspects_24 14 rfl
theorem dX12_suspects_68 : decode cX12_suspects 68 = .ok (.goto (-42), 3) := decs_at DX12_suspects_24 15 rfl
theorem dX12_suspects_71 : decode cX12_suspects 71 = .ok (.aload_n 0, 1) := decs_at DX12_suspects_24 16 rfl
theorem dX12_suspects_72 : decode cX12_suspects 72 = .ok (.getfield 384, 3) := decs_at DX12_suspects_24 17 rfl
theorem dX12_suspects_75 : decode cX12_suspects 75 = .ok (.ireturn, 1) := decs_at DX12_suspects_24 18 rfl
theorem DX12_suspect_0 : decs cX12_suspect [(0, .aload_n 0, 1), (1, .iconst 0, 1), (2, .putfield 106, 3), (5, .iload_n 1, 1), (6, .ifCond .lt 20, 3), (9, .iload_n 1, 1), (10, .aload_n 0, 1), (11, .getfield 384, 3), (14, .if_icmp .ge 12, 3), (17, .aload_n 0, 1), (18, .getfield 103, 3), (21, .iload_n 1, 1), (22, .iaload, 1), (23, .goto 4, 3), (26, .iconst (-1), 1), (27, .ireturn, 1)] := by unfold decs; decide +kernel
theorem dX12_suspect_0 : decode cX12_suspect 0 = .ok (.aload_n 0, 1) := decs_at DX12_suspect_0 0 rfl
theorem dX12_suspect_1 : decode cX12_suspect 1 = .ok (.iconst 0, 1) := decs_at DX12_suspect_0 1 rfl
theorem dX12_suspect_2 : decode cX12_suspect 2 = .ok (.putfield 106, 3) := decs_at DX12_suspect_0 2 rfl
theorem dX12_suspect_5 : decode cX12_suspect 5 = .ok (.iload_n 1, 1) := decs_at DX12_suspect_0 3 rfl
theorem dX12_suspect_6 : decode cX12_suspect 6 = .ok (.ifCond .lt 20, 3) := decs_at DX12_suspect_0 4 rfl
theorem dX12_suspect_9 : decode cX12_suspect 9 = .ok (.iload_n 1, 1) := decs_at DX12_suspect_0 5 rfl
theorem dX12_suspect_10 : decode cX12_suspect 10 = .ok (.aload_n 0, 1) := decs_at DX12_suspect_0 6 rfl
theorem dX12_suspect_11 : decode cX12_suspect 11 = .ok (.getfield 384, 3) := decs_at DX12_suspect_0 7 rfl
theorem dX12_suspect_14 : decode cX12_suspect 14 = .ok (.if_icmp .ge 12, 3) := decs_at DX12_suspect_0 8 rfl
theorem dX12_suspect_17 : decode cX12_suspect 17 = .ok (.aload_n 0, 1) := decs_at DX12_suspect_0 9 rfl
theorem dX12_suspect_18 : decode cX12_suspect 18 = .ok (.getfield 103, 3) := decs_at DX12_suspect_0 10 rfl
theorem dX12_suspect_21 : decode cX12_suspect 21 = .ok (.iload_n 1, 1) := decs_at DX12_suspect_0 11 rfl
theorem dX12_suspect_22 : decode cX12_suspect 22 = .ok (.iaload, 1) := decs_at DX12_suspect_0 12 rfl
theorem dX12_suspect_23 : decode cX12_suspect 23 = .ok (.goto 4, 3) := decs_at DX12_suspect_0 13 rfl
theorem dX12_suspect_26 : decode cX12_suspect 26 = .ok (.iconst (-1), 1) := decs_at DX12_suspect_0 14 rfl
theorem dX12_suspect_27 : decode cX12_suspect 27 = .ok (.ireturn, 1) := decs_at DX12_suspect_0 15 rfl
theorem DX12_next_0 : decs cX12_next [(0, .aload_n 0, 1), (1, .iconst 0, 1), (2, .putfield 106, 3), (5, .aload_n 0, 1), (6, .invokevirtual 374, 3), (9, .lstore_n 1, 1), (10, .lload_n 1, 1), (11, .lconst 0, 1), (12, .lcmp, 1), (13, .ifCond .eq 10, 3), (16, .aload_n 0, 1), (17, .getfield 378, 3), (20, .ifCond .ne 5, 3), (23, .iconst (-1), 1), (24, .ireturn, 1), (25, .iconst 0, 1), (26, .istore_n 3, 1), (27, .iconst 0, 1), (28, .istore 4, 2), (30, .iconst 0, 1), (31, .istore 5, 2), (33, .iload 5, 2), (35, .bipush 40, 2), (37, .if_icmp .ge 103, 3)] := by unfold decs; decide +kernel
theorem dX12_next_0 : decode cX12_next 0 = .ok (.aload_n 0, 1) := decs_at DX12_next_0 0 rfl
theorem dX12_next_1 : decode cX12_next 1 = .ok (.iconst 0, 1) := decs_at DX12_next_0 1 rfl
theorem dX12_next_2 : decode cX12_next 2 = .ok (.putfield 106, 3) := decs_at DX12_next_0 2 rfl
theorem dX12_next_5 : decode cX12_next 5 = .ok (.aload_n 0, 1) := decs_at DX12_next_0 3 rfl
theorem dX12_next_6 : decode cX12_next 6 = .ok (.invokevirtual 374, 3) := decs_at DX12_next_0 4 rfl
theorem dX12_next_9 : decode cX12_next 9 = .ok (.lstore_n 1, 1) := decs_at DX12_next_0 5 rfl
theorem dX12_next_10 : decode cX12_next 10 = .ok (.lload_n 1, 1) := decs_at DX12_next_0 6 rfl
theorem dX12_next_11 : decode cX12_next 11 = .ok (.lconst 0, 1) := decs_at DX12_next_0 7 rfl
theorem dX12_next_12 : decode cX12_next 12 = .ok (.lcmp, 1) := decs_at DX12_next_0 8 rfl
theorem dX12_next_13 : decode cX12_next 13 = .ok (.ifCond .eq 10, 3) := decs_at DX12_next_0 9 rfl
theorem dX12_next_16 : decode cX12_next 16 = .ok (.aload_n 0, 1) := decs_at DX12_next_0 10 rfl
theorem dX12_next_17 : decode cX12_next 17 = .ok (.getfield 378, 3) := decs_at DX12_next_0 11 rfl
theorem dX12_next_20 : decode cX12_next 20 = .ok (.ifCond .ne 5, 3) := decs_at DX12_next_0 12 rfl
theorem dX12_next_23 : decode cX12_next 23 = .ok (.iconst (-1), 1) := decs_at DX12_next_0 13 rfl
theorem dX12_next_24 : decode cX12_next 24 = .ok (.ireturn, 1) := decs_at DX12_next_0 14 rfl
theorem dX12_next_25 : decode cX12_next 25 = .ok (.iconst 0, 1) := decs_at DX12_next_0 15 rfl
theorem dX12_next_26 : decode cX12_next 26 = .ok (.istore_n 3, 1) := decs_at DX12_next_0 16 rfl
theorem dX12_next_27 : decode cX12_next 27 = .ok (.iconst 0, 1) := decs_at DX12_next_0 17 rfl
theorem dX12_next_28 : decode cX12_next 28 = .ok (.istore 4, 2) := decs_at DX12_next_0 18 rfl
theorem dX12_next_30 : decode cX12_next 30 = .ok (.iconst 0, 1) := decs_at DX12_next_0 19 rfl
theorem dX12_next_31 : decode cX12_next 31 = .ok (.istore 5, 2) := decs_at DX12_next_0 20 rfl
theorem dX12_next_33 : decode cX12_next 33 = .ok (.iload 5, 2) := decs_at DX12_next_0 21 rfl
theorem dX12_next_35 : decode cX12_next 35 = .ok (.bipush 40, 2) := decs_at DX12_next_0 22 rfl
theorem dX12_next_37 : decode cX12_next 37 = .ok (.if_icmp .ge 103, 3) := decs_at DX12_next_0 23 rfl
theorem DX12_next_24 : decs cX12_next [(40, .aload_n 0, 1), (41, .iload 5, 2), (43, .aload_n 0, 1), (44, .getfield 378, 3), (47, .iconst 1, 1), (48, .isub, 1), (49, .invokevirtual 387, 3), (52, .istore 6, 2), (54, .iload 6, 2), (56, .iconst (-1), 1), (57, .if_icmp .ne 6, 3), (60, .goto 74, 3), (63, .lload_n 1, 1), (64, .iload 5, 2), (66, .lshr, 1), (67, .lconst 1, 1), (68, .land, 1), (69, .lconst 1, 1), (70, .lcmp, 1), (71, .ifCond .ne 7, 3), (74, .iconst 1, 1), (75, .goto 4, 3), (78, .iconst 0, 1), (79, .istore 7, 2)] := by unfold decs; decide +kernel
theorem dX12_next_40 : decode cX12_next 40 = .ok (.aload_n 0, 1) := decs_at DX12_next_24 0 rfl
theorem dX12_next_41 : decode cX12_next 41 = .ok (.iload 5, 2) := decs_at DX12_next_24 1 rfl
theorem dX12_next_43 : decode cX12_next 43 = .ok (.aload_n 0, 1) := decs_at DX12_next_24 2 rfl
theorem dX12_next_44 : decode cX12_next 44 = .ok (.getfield 378, 3) := decs_at DX12_next_24 3 rfl
theorem dX12_next_47 : decode cX12_next 47 = .ok (.iconst 1, 1) := decs_at DX12_next_24 4 rfl
theorem dX12_next_48 : decode cX12_next 48 = .ok (.isub, 1) := decs_at DX12_next_24 5 rfl
theorem dX12_next_49 : decode cX12_next 49 = .ok (.invokevirtual 387, 3) := decs_at DX12_next_24 6 rfl
theorem dX12_next_52 : decode cX12_next 52 = .ok (.istore 6, 2) := decs_at DX12_next_24 7 rfl
theorem dX12_next_54 : decode cX12_next 54 = .ok (.iload 6, 2) := decs_at DX12_next_24 8 rfl
theorem dX12_next_56 : decode cX12_next 56 = .ok (.iconst (-1), 1) := decs_at DX12_next_24 9 rfl
theorem dX12_next_57 : decode cX12_next 57 = .ok (.if_icmp .ne 6, 3) := decs_at DX12_next_24 10 rfl
theorem dX12_next_60 : decode cX12_next 60 = .ok (.goto 74, 3) := decs_at DX12_next_24 11 rfl
theorem dX12_next_63 : decode cX12_next 63 = .ok (.lload_n 1, 1) := decs_at DX12_next_24 12 rfl
theorem dX12_next_64 : decode cX12_next 64 = .ok (.iload 5, 2) := decs_at DX12_next_24 13 rfl
theorem dX12_next_66 : decode cX12_next 66 = .ok (.lshr, 1) := decs_at DX12_next_24 14 rfl
theorem dX12_next_67 : decode cX12_next 67 = .ok (.lconst 1, 1) := decs_at DX12_next_24 15 rfl
theorem dX12_next_68 : decode cX12_next 68 = .ok (.land, 1) := decs_at DX12_next_24 16 rfl
theorem dX12_next_69 : decode cX12_next 69 = .ok (.lconst 1, 1) := decs_at DX12_next_24 17 rfl
theorem dX12_next_70 : decode cX12_next 70 = .ok (.lcmp, 1) := decs_at DX12_next_24 18 rfl
theorem dX12_next_71 : decode cX12_next 71 = .ok (.ifCond .ne 7, 3) := decs_at DX12_next_24 19 rfl
theorem dX12_next_74 : decode cX12_next 74 = .ok (.iconst 1, 1) := decs_at DX12_next_24 20 rfl
theorem dX12_next_75 : decode cX12_next 75 = .ok (.goto 4, 3) := decs_at DX12_next_24 21 rfl
theorem dX12_next_78 : decode cX12_next 78 = .ok (.iconst 0, 1) := decs_at DX12_next_24 22 rfl
theorem dX12_next_79 : decode cX12_next 79 = .ok (.istore 7, 2) := decs_at DX12_next_24 23 rfl
theorem DX12_next_48 : decs cX12_next [(81, .iload 6, 2), (83, .istore 8, 2), (85, .iload 8, 2), (87, .aload_n 0, 1), (88, .getfield 378, 3), (91, .if_icmp .ge 29, 3), (94, .aload_n 0, 1), (95, .getfield 97, 3), (98, .iload 8, 2), (100, .laload, 1), (101, .iload 5, 2), (103, .lshr, 1), (104, .lconst 1, 1), (105, .land, 1), (106, .lconst 1, 1), (107, .lcmp, 1), (108, .ifCond .ne 6, 3), (111, .iconst 0, 1), (112, .istore 7, 2), (114, .iinc 8 1, 3), (117, .goto (-32), 3), (120, .iload 7, 2), (122, .ifCond .eq 9, 3), (125, .iinc 3 1, 3)] := by unfold decs; decide +kernel
theorem dX12_next_81 : decode cX12_next 81 = .ok (.iload 6, 2) := decs_at DX12_next_48 0 rfl
theorem dX12_next_83 : decode cX12_next 83 = .ok (.istore 8, 2) := decs_at DX12_next_48 1 rfl
theorem dX12_next_85 : decode cX12_next 85 = .ok (.iload 8, 2) := decs_at DX12_next_48 2 rfl
theorem dX12_next_87 : decode cX12_next 87 = .ok (.aload_n 0, 1) := decs_at DX12_next_48 3 rfl
theorem dX12_next_88 : decode cX12_next 88 = .ok (.getfield 378, 3) := decs_at DX12_next_48 4 rfl
theorem dX12_next_91 : decode cX12_next 91 = .ok (.if_icmp .ge 29, 3) := decs_at DX12_next_48 5 rfl
theorem dX12_next_94 : decode cX12_next 94 = .ok (.aload_n 0, 1) := decs_at DX12_next_48 6 rfl
theorem dX12_next_95 : decode cX12_next 95 = .ok (.getfield 97, 3) := decs_at DX12_next_48 7 rfl
theorem dX12_next_98 : decode cX12_next 98 = .ok (.iload 8, 2) := decs_at DX12_next_48 8 rfl
theorem dX12_next_100 : decode cX12_next 100 = .ok (.laload, 1) := decs_at DX12_next_48 9 rfl
theorem dX12_next_101 : decode cX12_next 101 = .ok (.iload 5, 2) := decs_at DX12_next_48 10 rfl
theorem dX12_next_103 : decode cX12_next 103 = .ok (.lshr, 1) := decs_at DX12_next_48 11 rfl
theorem dX12_next_104 : decode cX12_next 104 = .ok (.lconst 1, 1) := decs_at DX12_next_48 12 rfl
theorem dX12_next_105 : decode cX12_next 105 = .ok (.land, 1) := decs_at DX12_next_48 13 rfl
theorem dX12_next_106 : decode cX12_next 106 = .ok (.lconst 1, 1) := decs_at DX12_next_48 14 rfl
theorem dX12_next_107 : decode cX12_next 107 = .ok (.lcmp, 1) := decs_at DX12_next_48 15 rfl
theorem dX12_next_108 : decode cX12_next 108 = .ok (.ifCond .ne 6, 3) := decs_at DX12_next_48 16 rfl
theorem dX12_next_111 : decode cX12_next 111 = .ok (.iconst 0, 1) := decs_at DX12_next_48 17 rfl
theorem dX12_next_112 : decode cX12_next 112 = .ok (.istore 7, 2) := decs_at DX12_next_48 18 rfl
theorem dX12_next_114 : decode cX12_next 114 = .ok (.iinc 8 1, 3) := decs_at DX12_next_48 19 rfl
theorem dX12_next_117 : decode cX12_next 117 = .ok (.goto (-32), 3) := decs_at DX12_next_48 20 rfl
theorem dX12_next_120 : decode cX12_next 120 = .ok (.iload 7, 2) := decs_at DX12_next_48 21 rfl
theorem dX12_next_122 : decode cX12_next 122 = .ok (.ifCond .eq 9, 3) := decs_at DX12_next_48 22 rfl
theorem dX12_next_125 : decode cX12_next 125 = .ok (.iinc 3 1, 3) := decs_at DX12_next_48 23 rfl
theorem DX12_next_72 : decs cX12_next [(128, .goto 6, 3), (131, .iinc 4 1, 3), (134, .iinc 5 1, 3), (137, .goto (-104), 3), (140, .iload_n 3, 1), (141, .iload 4, 2), (143, .iadd, 1), (144, .ifCond .ne 7, 3), (147, .iconst (-1), 1), (148, .goto 21, 3), (151, .iload 4, 2), (153, .ifCond .ne 7, 3), (156, .iconst 1, 1), (157, .goto 12, 3), (160, .iload_n 3, 1), (161, .ifCond .ne 7, 3), (164, .iconst 0, 1), (165, .goto 4, 3), (168, .iconst 2, 1), (169, .ireturn, 1)] := by unfold decs; decide +kernel
theorem dX12_next_128 : decode cX12_next 128 = .ok (.goto 6, 3) := decs_at DX12_next_72 0 rfl
theorem dX12_next_131 : decode cX12_next 131 = .ok (.iinc 4 1, 3) := decs_at DX12_next_72 1 rfl
theorem dX12_next_134 : decode cX12_next 134 = .ok (.iinc 5 1, 3) := decs_at DX12_next_72 2 rfl
theorem dX12_next_137 : decode cX12_next 137 = .ok (.goto (-104), 3) := decs_at DX12_next_72 3 rfl
theorem dX12_next_140 : decode cX12_next 140 = .ok (.iload_n 3, 1) := decs_at DX12_next_72 4 rfl
theorem dX12_next_141 : decode cX12_next 141 = .ok (.iload 4, 2) := decs_at DX12_next_72 5 rfl
theorem dX12_next_143 : decode cX12_next 143 = .ok (.iadd, 1) := decs_at DX12_next_72 6 rfl
theorem dX12_next_144 : decode cX12_next 144 = .ok (.ifCond .ne 7, 3) := decs_at DX12_next_72 7 rfl
theorem dX12_next_147 : decode cX12_next 147 = .ok (.iconst (-1), 1) := decs_at DX12_next_72 8 rfl
theorem dX12_next_148 : decode cX12_next 148 = .ok (.goto 21, 3) := decs_at DX12_next_72 9 rfl
theorem dX12_next_151 : decode cX12_next 151 = .ok (.iload 4, 2) := decs_at DX12_next_72 10 rfl
theorem dX12_next_153 : decode cX12_next 153 = .ok (.ifCond .ne 7, 3) := decs_at DX12_next_72 11 rfl
theorem dX12_next_156 : decode cX12_next 156 = .ok (.iconst 1, 1) := decs_at DX12_next_72 12 rfl
theorem dX12_next_157 : decode cX12_next 157 = .ok (.goto 12, 3) := decs_at DX12_next_72 13 rfl
theorem dX12_next_160 : decode cX12_next 160 = .ok (.iload_n 3, 1) := decs_at DX12_next_72 14 rfl
theorem dX12_next_161 : decode cX12_next 161 = .ok (.ifCond .ne 7, 3) := decs_at DX12_next_72 15 rfl
theorem dX12_next_164 : decode cX12_next 164 = .ok (.iconst 0, 1) := decs_at DX12_next_72 16 rfl
theorem dX12_next_165 : decode cX12_next 165 = .ok (.goto 4, 3) := decs_at DX12_next_72 17 rfl
theorem dX12_next_168 : decode cX12_next 168 = .ok (.iconst 2, 1) := decs_at DX12_next_72 18 rfl
theorem dX12_next_169 : decode cX12_next 169 = .ok (.ireturn, 1) := decs_at DX12_next_72 19 rfl
theorem DX12_count_0 : decs cX12_count [(0, .aload_n 0, 1), (1, .iconst 0, 1), (2, .putfield 106, 3), (5, .iload_n 1, 1), (6, .tableswitch 83 0 4 #[34, 39, 44, 49, 78], 34), (40, .aload_n 0, 1), (41, .getfield 16, 3), (44, .ireturn, 1), (45, .aload_n 0, 1), (46, .getfield 238, 3), (49, .ireturn, 1), (50, .aload_n 0, 1), (51, .getfield 378, 3), (54, .ireturn, 1), (55, .iconst 0, 1), (56, .istore_n 2, 1), (57, .iconst 0, 1), (58, .istore_n 3, 1), (59, .iload_n 3, 1), (60, .aload_n 0, 1), (61, .getfield 238, 3), (64, .if_icmp .ge 18, 3), (67, .iload_n 2, 1), (68, .aload_n 0, 1)] := by unfold decs; decide +kernel
theorem dX12_count_0 : decode cX12_count 0 = .ok (.aload_n 0, 1) := decs_at DX12_count_0 0 rfl
theorem dX12_count_1 : decode cX12_count 1 = .ok (.iconst 0, 1) := decs_at DX12_count_0 1 rfl
theorem dX12_count_2 : decode cX12_count 2 = .ok (.putfield 106, 3) := decs_at DX12_count_0 2 rfl
theorem dX12_count_5 : decode cX12_count 5 = .ok (.iload_n 1, 1) := decs_at DX12_count_0 3 rfl
theorem dX12_count_6 : decode cX12_count 6 = .ok (.tableswitch 83 0 4 #[34, 39, 44, 49, 78], 34) := decs_at DX12_count_0 4 rfl
theorem dX12_count_40 : decode cX12_count 40 = .ok (.aload_n 0, 1) := decs_at DX12_count_0 5 rfl
theorem dX12_count_41 : decode cX12_count 41 = .ok (.getfield 16, 3) := decs_at DX12_count_0 6 rfl
theorem dX12_count_44 : decode cX12_count 44 = .ok (.ireturn, 1) := decs_at DX12_count_0 7 rfl
theorem dX12_count_45 : decode cX12_count 45 = .ok (.aload_n 0, 1) := decs_at DX12_count_0 8 rfl
theorem dX12_count_46 : decode cX12_count 46 = .ok (.getfield 238, 3) := decs_at DX12_count_0 9 rfl
theorem dX12_count_49 : decode cX12_count 49 = .ok (.ireturn, 1) := decs_at DX12_count_0 10 rfl
theorem dX12_count_50 : decode cX12_count 50 = .ok (.aload_n 0, 1) := decs_at DX12_count_0 11 rfl
theorem dX12_count_51 : decode cX12_count 51 = .ok (.getfield 378, 3) := decs_at DX12_count_0 12 rfl
theorem dX12_count_54 : decode cX12_count 54 = .ok (.ireturn, 1) := decs_at DX12_count_0 13 rfl
theorem dX12_count_55 : decode cX12_count 55 = .ok (.iconst 0, 1) := decs_at DX12_count_0 14 rfl
theorem dX12_count_56 : decode cX12_count 56 = .ok (.istore_n 2, 1) := decs_at DX12_count_0 15 rfl
theorem dX12_count_57 : decode cX12_count 57 = .ok (.iconst 0, 1) := decs_at DX12_count_0 16 rfl
theorem dX12_count_58 : decode cX12_count 58 = .ok (.istore_n 3, 1) := decs_at DX12_count_0 17 rfl
theorem dX12_count_59 : decode cX12_count 59 = .ok (.iload_n 3, 1) := decs_at DX12_count_0 18 rfl
theorem dX12_count_60 : decode cX12_count 60 = .ok (.aload_n 0, 1) := decs_at DX12_count_0 19 rfl
theorem dX12_count_61 : decode cX12_count 61 = .ok (.getfield 238, 3) := decs_at DX12_count_0 20 rfl
theorem dX12_count_64 : decode cX12_count 64 = .ok (.if_icmp .ge 18, 3) := decs_at DX12_count_0 21 rfl
theorem dX12_count_67 : decode cX12_count 67 = .ok (.iload_n 2, 1) := decs_at DX12_count_0 22 rfl
theorem dX12_count_68 : decode cX12_count 68 = .ok (.aload_n 0, 1) := decs_at DX12_count_0 23 rfl
theorem DX12_count_24 : decs cX12_count [(69, .getfield 32, 3), (72, .iload_n 3, 1), (73, .iaload, 1), (74, .iadd, 1), (75, .istore_n 2, 1), (76, .iinc 3 1, 3), (79, .goto (-20), 3), (82, .iload_n 2, 1), (83, .ireturn, 1), (84, .aload_n 0, 1), (85, .getfield 109, 3), (88, .ireturn, 1), (89, .iconst (-1), 1), (90, .ireturn, 1)] := by unfold decs; decide +kernel
theorem dX12_count_69 : decode cX12_count 69 = .ok (.getfield 32, 3) := decs_at DX12_count_24 0 rfl
theorem dX12_count_72 : decode cX12_count 72 = .ok (.iload_n 3, 1) := decs_at DX12_count_24 1 rfl
theorem dX12_count_73 : decode cX12_count 73 = .ok (.iaload, 1) := decs_at DX12_count_24 2 rfl
theorem dX12_count_74 : decode cX12_count 74 = .ok (.iadd, 1) := decs_at DX12_count_24 3 rfl
theorem dX12_count_75 : decode cX12_count 75 = .ok (.istore_n 2, 1) := decs_at DX12_count_24 4 rfl
theorem dX12_count_76 : decode cX12_count 76 = .ok (.iinc 3 1, 3) := decs_at DX12_count_24 5 rfl
theorem dX12_count_79 : decode cX12_count 79 = .ok (.goto (-20), 3) := decs_at DX12_count_24 6 rfl
theorem dX12_count_82 : decode cX12_count 82 = .ok (.iload_n 2, 1) := decs_at DX12_count_24 7 rfl
theorem dX12_count_83 : decode cX12_count 83 = .ok (.ireturn, 1) := decs_at DX12_count_24 8 rfl
theorem dX12_count_84 : decode cX12_count 84 = .ok (.aload_n 0, 1) := decs_at DX12_count_24 9 rfl
theorem dX12_count_85 : decode cX12_count 85 = .ok (.getfield 109, 3) := decs_at DX12_count_24 10 rfl
theorem dX12_count_88 : decode cX12_count 88 = .ok (.ireturn, 1) := decs_at DX12_count_24 11 rfl
theorem dX12_count_89 : decode cX12_count 89 = .ok (.iconst (-1), 1) := decs_at DX12_count_24 12 rfl
theorem dX12_count_90 : decode cX12_count 90 = .ok (.ireturn, 1) := decs_at DX12_count_24 13 rfl
