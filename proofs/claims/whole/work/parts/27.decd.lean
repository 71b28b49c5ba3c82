theorem DX12_thrown_0 : decs cX12_thrown [(0, .aload_n 0, 1), (1, .getfield 106, 3), (4, .ireturn, 1)] := by unfold decs; decide +kernel
theorem dX12_thrown_0 : decode cX12_thrown 0 = .ok (.aload_n 0, 1) := decs_at DX12_thrown_0 0 rfl
theorem dX12_thrown_1 : decode cX12_thrown 1 = .ok (.getfield 106, 3) := decs_at DX12_thrown_0 1 rfl
theorem dX12_thrown_4 : decode cX12_thrown 4 = .ok (.ireturn, 1) := decs_at DX12_thrown_0 2 rfl
theorem DX12_refuse_0 : decs cX12_refuse [(0, .aload_n 0, 1), (1, .iconst 1, 1), (2, .putfield 106, 3), (5, .iconst 0, 1), (6, .ireturn, 1)] := by unfold decs; decide +kernel
theorem dX12_refuse_0 : decode cX12_refuse 0 = .ok (.aload_n 0, 1) := decs_at DX12_refuse_0 0 rfl
theorem dX12_refuse_1 : decode cX12_refuse 1 = .ok (.iconst 1, 1) := decs_at DX12_refuse_0 1 rfl
theorem dX12_refuse_2 : decode cX12_refuse 2 = .ok (.putfield 106, 3) := decs_at DX12_refuse_0 2 rfl
theorem dX12_refuse_5 : decode cX12_refuse 5 = .ok (.iconst 0, 1) := decs_at DX12_refuse_0 3 rfl
theorem dX12_refuse_6 : decode cX12_refuse 6 = .ok (.ireturn, 1) := decs_at DX12_refuse_0 4 rfl
theorem DX12_come_0 : decs cX12_come [(0, .bipush 24, 2), (2, .istore_n 2, 1), (3, .iload_n 2, 1), (4, .ifCond .lt 35, 3), (7, .aload_n 0, 1), (8, .getfield 7, 3), (11, .aload_n 0, 1), (12, .getfield 109, 3), (15, .iload_n 1, 1), (16, .iload_n 2, 1), (17, .iushr, 1), (18, .sipush 255, 3), (21, .iand, 1), (22, .iastore, 1), (23, .aload_n 0, 1), (24, .dup, 1), (25, .getfield 109, 3), (28, .iconst 1, 1), (29, .iadd, 1), (30, .putfield 109, 3), (33, .iinc 2 (-8), 3), (36, .goto (-33), 3), (39, .return_, 1)] := by unfold decs; decide +kernel
theorem dX12_come_0 : decode cX12_come 0 = .ok (.bipush 24, 2) := decs_at DX12_come_0 0 rfl
theorem dX12_come_2 : decode cX12_come 2 = .ok (.istore_n 2, 1) := decs_at DX12_come_0 1 rfl
theorem dX12_come_3 : decode cX12_come 3 = .ok (.iload_n 2, 1) := decs_at DX12_come_0 2 rfl
theorem dX12_come_4 : decode cX12_come 4 = .ok (.ifCond .lt 35, 3) := decs_at DX12_come_0 3 rfl
theorem dX12_come_7 : decode cX12_come 7 = .ok (.aload_n 0, 1) := decs_at DX12_come_0 4 rfl
theorem dX12_come_8 : decode cX12_come 8 = .ok (.getfield 7, 3) := decs_at DX12_come_0 5 rfl
theorem dX12_come_11 : decode cX12_come 11 = .ok (.aload_n 0, 1) := decs_at DX12_come_0 6 rfl
theorem dX12_come_12 : decode cX12_come 12 = .ok (.getfield 109, 3) := decs_at DX12_come_0 7 rfl
theorem dX12_come_15 : decode cX12_come 15 = .ok (.iload_n 1, 1) := decs_at DX12_come_0 8 rfl
theorem dX12_come_16 : decode cX12_come 16 = .ok (.iload_n 2, 1) := decs_at DX12_come_0 9 rfl
theorem dX12_come_17 : decode cX12_come 17 = .ok (.iushr, 1) := decs_at DX12_come_0 10 rfl
theorem dX12_come_18 : decode cX12_come 18 = .ok (.sipush 255, 3) := decs_at DX12_come_0 11 rfl
theorem dX12_come_21 : decode cX12_come 21 = .ok (.iand, 1) := decs_at DX12_come_0 12 rfl
theorem dX12_come_22 : decode cX12_come 22 = .ok (.iastore, 1) := decs_at DX12_come_0 13 rfl
theorem dX12_come_23 : decode cX12_come 23 = .ok (.aload_n 0, 1) := decs_at DX12_come_0 14 rfl
theorem dX12_come_24 : decode cX12_come 24 = .ok (.dup, 1) := decs_at DX12_come_0 15 rfl
theorem dX12_come_25 : decode cX12_come 25 = .ok (.getfield 109, 3) := decs_at DX12_come_0 16 rfl
theorem dX12_come_28 : decode cX12_come 28 = .ok (.iconst 1, 1) := decs_at DX12_come_0 17 rfl
theorem dX12_come_29 : decode cX12_come 29 = .ok (.iadd, 1) := decs_at DX12_come_0 18 rfl
theorem dX12_come_30 : decode cX12_come 30 = .ok (.putfield 109, 3) := decs_at DX12_come_0 19 rfl
theorem dX12_come_33 : decode cX12_come 33 = .ok (.iinc 2 (-8), 3) := decs_at DX12_come_0 20 rfl
theorem dX12_come_36 : decode cX12_come 36 = .ok (.goto (-33), 3) := decs_at DX12_come_0 21 rfl
theorem dX12_come_39 : decode cX12_come 39 = .ok (.return_, 1) := decs_at DX12_come_0 22 rfl
theorem DX12_feed_0 : decs cX12_feed [(0, .aload_n 0, 1), (1, .iconst 0, 1), (2, .putfield 106, 3), (5, .aload_n 0, 1), (6, .getfield 109, 3), (9, .bipush 20, 2), (11, .iadd, 1), (12, .sipush 740, 3), (15, .if_icmp .le 5, 3), (18, .iconst (-1), 1), (19, .ireturn, 1), (20, .aload_n 0, 1), (21, .iload_n 1, 1), (22, .invokevirtual 112, 3), (25, .aload_n 0, 1), (26, .iload_n 2, 1), (27, .invokevirtual 112, 3), (30, .aload_n 0, 1), (31, .iload_n 3, 1), (32, .invokevirtual 112, 3), (35, .aload_n 0, 1), (36, .iload 4, 2), (38, .invokevirtual 112, 3), (41, .aload_n 0, 1)] := by unfold decs; decide +kernel
theorem dX12_feed_0 : decode cX12_feed 0 = .ok (.aload_n 0, 1) := decs_at DX12_feed_0 0 rfl
theorem dX12_feed_1 : decode cX12_feed 1 = .ok (.iconst 0, 1) := decs_at DX12_feed_0 1 rfl
theorem dX12_feed_2 : decode cX12_feed 2 = .ok (.putfield 106, 3) := decs_at DX12_feed_0 2 rfl
theorem dX12_feed_5 : decode cX12_feed 5 = .ok (.aload_n 0, 1) := decs_at DX12_feed_0 3 rfl
theorem dX12_feed_6 : decode cX12_feed 6 = .ok (.getfield 109, 3) := decs_at DX12_feed_0 4 rfl
theorem dX12_feed_9 : decode cX12_feed 9 = .ok (.bipush 20, 2) := decs_at DX12_feed_0 5 rfl
theorem dX12_feed_11 : decode cX12_feed 11 = .ok (.iadd, 1) := decs_at DX12_feed_0 6 rfl
theorem dX12_feed_12 : decode cX12_feed 12 = .ok (.sipush 740, 3) := decs_at DX12_feed_0 7 rfl
theorem dX12_feed_15 : decode cX12_feed 15 = .ok (.if_icmp .le 5, 3) := decs_at DX12_feed_0 8 rfl
theorem dX12_feed_18 : decode cX12_feed 18 = .ok (.iconst (-1), 1) := decs_at DX12_feed_0 9 rfl
theorem dX12_feed_19 : decode cX12_feed 19 = .ok (.ireturn, 1) := decs_at DX12_feed_0 10 rfl
theorem dX12_feed_20 : decode cX12_feed 20 = .ok (.aload_n 0, 1) := decs_at DX12_feed_0 11 rfl
theorem dX12_feed_21 : decode cX12_feed 21 = .ok (.iload_n 1, 1) := decs_at DX12_feed_0 12 rfl
theorem dX12_feed_22 : decode cX12_feed 22 = .ok (.invokevirtual 112, 3) := decs_at DX12_feed_0 13 rfl
theorem dX12_feed_25 : decode cX12_feed 25 = .ok (.aload_n 0, 1) := decs_at DX12_feed_0 14 rfl
theorem dX12_feed_26 : decode cX12_feed 26 = .ok (.iload_n 2, 1) := decs_at DX12_feed_0 15 rfl
theorem dX12_feed_27 : decode cX12_feed 27 = .ok (.invokevirtual 112, 3) := decs_at DX12_feed_0 16 rfl
theorem dX12_feed_30 : decode cX12_feed 30 = .ok (.aload_n 0, 1) := decs_at DX12_feed_0 17 rfl
theorem dX12_feed_31 : decode cX12_feed 31 = .ok (.iload_n 3, 1) := decs_at DX12_feed_0 18 rfl
theorem dX12_feed_32 : decode cX12_feed 32 = .ok (.invokevirtual 112, 3) := decs_at DX12_feed_0 19 rfl
theorem dX12_feed_35 : decode cX12_feed 35 = .ok (.aload_n 0, 1) := decs_at DX12_feed_0 20 rfl
theorem dX12_feed_36 : decode cX12_feed 36 = .ok (.iload 4, 2) := decs_at DX12_feed_0 21 rfl
theorem dX12_feed_38 : decode cX12_feed 38 = .ok (.invokevirtual 112, 3) := decs_at DX12_feed_0 22 rfl
theorem dX12_feed_41 : decode cX12_feed 41 = .ok (.aload_n 0, 1) := decs_at DX12_feed_0 23 rfl
theorem DX12_feed_24 : decs cX12_feed [(42, .iload 5, 2), (44, .invokevirtual 112, 3), (47, .aload_n 0, 1), (48, .getfield 109, 3), (51, .ireturn, 1)] := by unfold decs; decide +kernel
theorem dX12_feed_42 : decode cX12_feed 42 = .ok (.iload 5, 2) := decs_at DX12_feed_24 0 rfl
theorem dX12_feed_44 : decode cX12_feed 44 = .ok (.invokevirtual 112, 3) := decs_at DX12_feed_24 1 rfl
theorem dX12_feed_47 : decode cX12_feed 47 = .ok (.aload_n 0, 1) := decs_at DX12_feed_24 2 rfl
theorem dX12_feed_48 : decode cX12_feed 48 = .ok (.getfield 109, 3) := decs_at DX12_feed_24 3 rfl
theorem dX12_feed_51 : decode cX12_feed 51 = .ok (.ireturn, 1) := decs_at DX12_feed_24 4 rfl
theorem DX12_end_0 : decs cX12_end [(0, .aload_n 0, 1), (1, .iconst 0, 1), (2, .putfield 106, 3), (5, .iload_n 1, 1), (6, .ifCond .lt 11, 3), (9, .iload_n 1, 1), (10, .aload_n 0, 1), (11, .getfield 109, 3), (14, .if_icmp .le 5, 3), (17, .iconst 0, 1), (18, .ireturn, 1), (19, .aload_n 0, 1), (20, .iload_n 1, 1), (21, .putfield 109, 3), (24, .iconst 1, 1), (25, .ireturn, 1)] := by unfold decs; decide +kernel
theorem dX12_end_0 : decode cX12_end 0 = .ok (.aload_n 0, 1) := decs_at DX12_end_0 0 rfl
theorem dX12_end_1 : decode cX12_end 1 = .ok (.iconst 0, 1) := decs_at DX12_end_0 1 rfl
theorem dX12_end_2 : decode cX12_end 2 = .ok (.putfield 106, 3) := decs_at DX12_end_0 2 rfl
theorem dX12_end_5 : decode cX12_end 5 = .ok (.iload_n 1, 1) := decs_at DX12_end_0 3 rfl
theorem dX12_end_6 : decode cX12_end 6 = .ok (.ifCond .lt 11, 3) := decs_at DX12_end_0 4 rfl
theorem dX12_end_9 : decode cX12_end 9 = .ok (.iload_n 1, 1) := decs_at DX12_end_0 5 rfl
theorem dX12_end_10 : decode cX12_end 10 = .ok (.aload_n 0, 1) := decs_at DX12_end_0 6 rfl
theorem dX12_end_11 : decode cX12_end 11 = .ok (.getfield 109, 3) := decs_at DX12_end_0 7 rfl
theorem dX12_end_14 : decode cX12_end 14 = .ok (.if_icmp .le 5, 3) := decs_at DX12_end_0 8 rfl
theorem dX12_end_17 : decode cX12_end 17 = .ok (.iconst 0, 1) := decs_at DX12_end_0 9 rfl
theorem dX12_end_18 : decode cX12_end 18 = .ok (.ireturn, 1) := decs_at DX12_end_0 10 rfl
theorem dX12_end_19 : decode cX12_end 19 = .ok (.aload_n 0, 1) := decs_at DX12_end_0 11 rfl
theorem dX12_end_20 : decode cX12_end 20 = .ok (.iload_n 1, 1) := decs_at DX12_end_0 12 rfl
theorem dX12_end_21 : decode cX12_end 21 = .ok (.putfield 109, 3) := decs_at DX12_end_0 13 rfl
theorem dX12_end_24 : decode cX12_end 24 = .ok (.iconst 1, 1) := decs_at DX12_end_0 14 rfl
theorem dX12_end_25 : decode cX12_end 25 = .ok (.ireturn, 1) := decs_at DX12_end_0 15 rfl
theorem DX12_take_0 : decs cX12_take [(0, .aload_n 0, 1), (1, .getfield 109, 3), (4, .istore_n 1, 1), (5, .aload_n 0, 1), (6, .iconst 0, 1), (7, .putfield 109, 3), (10, .iload_n 1, 1), (11, .ireturn, 1)] := by unfold decs; decide +kernel
theorem dX12_take_0 : decode cX12_take 0 = .ok (.aload_n 0, 1) := decs_at DX12_take_0 0 rfl
theorem dX12_take_1 : decode cX12_take 1 = .ok (.getfield 109, 3) := decs_at DX12_take_0 1 rfl
theorem dX12_take_4 : decode cX12_take 4 = .ok (.istore_n 1, 1) := decs_at DX12_take_0 2 rfl
theorem dX12_take_5 : decode cX12_take 5 = .ok (.aload_n 0, 1) := decs_at DX12_take_0 3 rfl
theorem dX12_take_6 : decode cX12_take 6 = .ok (.iconst 0, 1) := decs_at DX12_take_0 4 rfl
theorem dX12_take_7 : decode cX12_take 7 = .ok (.putfield 109, 3) := decs_at DX12_take_0 5 rfl
theorem dX12_take_10 : decode cX12_take 10 = .ok (.iload_n 1, 1) := decs_at DX12_take_0 6 rfl
theorem dX12_take_11 : decode cX12_take 11 = .ok (.ireturn, 1) := decs_at DX12_take_0 7 rfl
theorem DX12_isIn_0 : decs cX12_isIn [(0, .iload_n 0, 1), (1, .iload_n 1, 1), (2, .if_icmp .lt 12, 3), (5, .iload_n 0, 1), (6, .iload_n 2, 1), (7, .if_icmp .gt 7, 3), (10, .iconst 1, 1), (11, .goto 4, 3), (14, .iconst 0, 1), (15, .ireturn, 1)] := by unfold decs; decide +kernel
theorem dX12_isIn_0 : decode cX12_isIn 0 = .ok (.iload_n 0, 1) := decs_at DX12_isIn_0 0 rfl
theorem dX12_isIn_1 : decode cX12_isIn 1 = .ok (.iload_n 1, 1) := decs_at DX12_isIn_0 1 rfl
theorem dX12_isIn_2 : decode cX12_isIn 2 = .ok (.if_icmp .lt 12, 3) := decs_at DX12_isIn_0 2 rfl
theorem dX12_isIn_5 : decode cX12_isIn 5 = .ok (.iload_n 0, 1) := decs_at DX12_isIn_0 3 rfl
theorem dX12_isIn_6 : decode cX12_isIn 6 = .ok (.iload_n 2, 1) := decs_at DX12_isIn_0 4 rfl
theorem dX12_isIn_7 : decode cX12_isIn 7 = .ok (.if_icmp .gt 7, 3) := decs_at DX12_isIn_0 5 rfl
theorem dX12_isIn_10 : decode cX12_isIn 10 = .ok (.iconst 1, 1) := decs_at DX12_isIn_0 6 rfl
theorem dX12_isIn_11 : decode cX12_isIn 11 = .ok (.goto 4, 3) := decs_at DX12_isIn_0 7 rfl
theorem dX12_isIn_14 : decode cX12_isIn 14 = .ok (.iconst 0, 1) := decs_at DX12_isIn_0 8 rfl
theorem dX12_isIn_15 : decode cX12_isIn 15 = .ok (.ireturn, 1) := decs_at DX12_isIn_0 9 rfl
theorem DX12_byteAt_0 : decs cX12_byteAt [(0, .iload_n 1, 1), (1, .aload_n 0, 1), (2, .getfield 116, 3), (5, .if_icmp .ge 12, 3), (8, .aload_n 0, 1), (9, .getfield 7, 3), (12, .iload_n 1, 1), (13, .iaload, 1), (14, .goto 4, 3), (17, .iconst 0, 1), (18, .ireturn, 1)] := by unfold decs; decide +kernel
theorem dX12_byteAt_0 : decode cX12_byteAt 0 = .ok (.iload_n 1, 1) := decs_at DX12_byteAt_0 0 rfl
theorem dX12_byteAt_1 : decode cX12_byteAt 1 = .ok (.aload_n 0, 1) := decs_at DX12_byteAt_0 1 rfl
theorem dX12_byteAt_2 : decode cX12_byteAt 2 = .ok (.getfield 116, 3) := decs_at DX12_byteAt_0 2 rfl
theorem dX12_byteAt_5 : decode cX12_byteAt 5 = .ok (.if_icmp .ge 12, 3) := decs_at DX12_byteAt_0 3 rfl
theorem dX12_byteAt_8 : decode cX12_byteAt 8 = .ok (.aload_n 0, 1) := decs_at DX12_byteAt_0 4 rfl
theorem dX12_byteAt_9 : decode cX12_byteAt 9 = .ok (.getfield 7, 3) := decs_at DX12_byteAt_0 5 rfl
theorem dX12_byteAt_12 : decode cX12_byteAt 12 = .ok (.iload_n 1, 1) := decs_at DX12_byteAt_0 6 rfl
theorem dX12_byteAt_13 : decode cX12_byteAt 13 = .ok (.iaload, 1) := decs_at DX12_byteAt_0 7 rfl
theorem dX12_byteAt_14 : decode cX12_byteAt 14 = .ok (.goto 4, 3) := decs_at DX12_byteAt_0 8 rfl
theorem dX12_byteAt_17 : decode cX12_byteAt 17 = .ok (.iconst 0, 1) := decs_at DX12_byteAt_0 9 rfl
theorem dX12_byteAt_18 : decode cX12_byteAt 18 = .ok (.ireturn, 1) := decs_at DX12_byteAt_0 10 rfl
theorem DX12_isDigit_0 : decs cX12_isDigit [(0, .iload_n 0, 1), (1, .bipush 48, 2), (3, .if_icmp .lt 13, 3), (6, .iload_n 0, 1), (7, .bipush 57, 2), (9, .if_icmp .gt 7, 3), (12, .iconst 1, 1), (13, .goto 4, 3), (16, .iconst 0, 1), (17, .ireturn, 1)] := by unfold decs; decide +kernel
theorem dX12_isDigit_0 : decode cX12_isDigit 0 = .ok (.iload_n 0, 1) := decs_at DX12_isDigit_0 0 rfl
theorem dX12_isDigit_1 : decode cX12_isDigit 1 = .ok (.bipush 48, 2) := decs_at DX12_isDigit_0 1 rfl
theorem dX12_isDigit_3 : decode cX12_isDigit 3 = .ok (.if_icmp .lt 13, 3) := decs_at DX12_isDigit_0 2 rfl
theorem dX12_isDigit_6 : decode cX12_isDigit 6 = .ok (.iload_n 0, 1) := decs_at DX12_isDigit_0 3 rfl
theorem dX12_isDigit_7 : decode cX12_isDigit 7 = .ok (.bipush 57, 2) := decs_at DX12_isDigit_0 4 rfl
theorem dX12_isDigit_9 : decode cX12_isDigit 9 = .ok (.if_icmp .gt 7, 3) := decs_at DX12_isDigit_0 5 rfl
theorem dX12_isDigit_12 : decode cX12_isDigit 12 = .ok (.iconst 1, 1) := decs_at DX12_isDigit_0 6 rfl
theorem dX12_isDigit_13 : decode cX12_isDigit 13 = .ok (.goto 4, 3) := decs_at DX12_isDigit_0 7 rfl
theorem dX12_isDigit_16 : decode cX12_isDigit 16 = .ok (.iconst 0, 1) := decs_at DX12_isDigit_0 8 rfl
theorem dX12_isDigit_17 : decode cX12_isDigit 17 = .ok (.ireturn, 1) := decs_at DX12_isDigit_0 9 rfl
theorem DX12_isLetter_0 : decs cX12_isLetter [(0, .iload_n 0, 1), (1, .bipush 97, 2), (3, .if_icmp .lt 13, 3), (6, .iload_n 0, 1), (7, .bipush 122, 2), (9, .if_icmp .gt 7, 3), (12, .iconst 1, 1), (13, .goto 4, 3), (16, .iconst 0, 1), (17, .ireturn, 1)] := by unfold decs; decide +kernel
theorem dX12_isLetter_0 : decode cX12_isLetter 0 = .ok (.iload_n 0, 1) := decs_at DX12_isLetter_0 0 rfl
theorem dX12_isLetter_1 : decode cX12_isLetter 1 = .ok (.bipush 97, 2) := decs_at DX12_isLetter_0 1 rfl
theorem dX12_isLetter_3 : decode cX12_isLetter 3 = .ok (.if_icmp .lt 13, 3) := decs_at DX12_isLetter_0 2 rfl
theorem dX12_isLetter_6 : decode cX12_isLetter 6 = .ok (.iload_n 0, 1) := decs_at DX12_isLetter_0 3 rfl
theorem dX12_isLetter_7 : decode cX12_isLetter 7 = .ok (.bipush 122, 2) := decs_at DX12_isLetter_0 4 rfl
theorem dX12_isLetter_9 : decode cX12_isLetter 9 = .ok (.if_icmp .gt 7, 3) := decs_at DX12_isLetter_0 5 rfl
theorem dX12_isLetter_12 : decode cX12_isLetter 12 = .ok (.iconst 1, 1) := decs_at DX12_isLetter_0 6 rfl
theorem dX12_isLetter_13 : decode cX12_isLetter 13 = .ok (.goto 4, 3) := decs_at DX12_isLetter_0 7 rfl
theorem dX12_isLetter_16 : decode cX12_isLetter 16 = .ok (.iconst 0, 1) := decs_at DX12_isLetter_0 8 rfl
theorem dX12_isLetter_17 : decode cX12_isLetter 17 = .ok (.ireturn, 1) := decs_at DX12_isLetter_0 9 rfl
theorem DX12_go_0 : decs cX12_go [(0, .aload_n 0, 1), (1, .getfield 119, 3), (4, .aload_n 0, 1), (5, .getfield 116, 3), (8, .if_icmp .ge 44, 3), (11, .aload_n 0, 1), (12, .getfield 7, 3), (15, .aload_n 0, 1), (16, .getfield 119, 3), (19, .iaload, 1), (20, .bipush 32, 2), (22, .if_icmp .eq 17, 3), (25, .aload_n 0, 1), (26, .getfield 7, 3), (29, .aload_n 0, 1), (30, .getfield 119, 3), (33, .iaload, 1), (34, .bipush 10, 2), (36, .if_icmp .ne 16, 3), (39, .aload_n 0, 1), (40, .dup, 1), (41, .getfield 119, 3), (44, .iconst 1, 1), (45, .iadd, 1)] := by unfold decs; decide +kernel
theorem dX12_go_0 : decode cX12_go 0 = .ok (.aload_n 0, 1) := decs_at DX12_go_0 0 rfl
theorem dX12_go_1 : decode cX12_go 1 = .ok (.getfield 119, 3) := decs_at DX12_go_0 1 rfl
theorem dX12_go_4 : decode cX12_go 4 = .ok (.aload_n 0, 1) := decs_at DX12_go_0 2 rfl
theorem dX12_go_5 : decode cX12_go 5 = .ok (.getfield 116, 3) := decs_at DX12_go_0 3 rfl
theorem dX12_go_8 : decode cX12_go 8 = .ok (.if_icmp .ge 44, 3) := decs_at DX12_go_0 4 rfl
theorem dX12_go_11 : decode cX12_go 11 = .ok (.aload_n 0, 1) := decs_at DX12_go_0 5 rfl
theorem dX12_go_12 : decode cX12_go 12 = .ok (.getfield 7, 3) := decs_at DX12_go_0 6 rfl
theorem dX12_go_15 : decode cX12_go 15 = .ok (.aload_n 0, 1) := decs_at DX12_go_0 7 rfl
theorem dX12_go_16 : decode cX12_go 16 = .ok (.getfield 119, 3) := decs_at DX12_go_0 8 rfl
theorem dX12_go_19 : decode cX12_go 19 = .ok (.iaload, 1) := decs_at DX12_go_0 9 rfl
theorem dX12_go_20 : decode cX12_go 20 = .ok (.bipush 32, 2) := decs_at DX12_go_0 10 rfl
theorem dX12_go_22 : decode cX12_go 22 = .ok (.if_icmp .eq 17, 3) := decs_at DX12_go_0 11 rfl
theorem dX12_go_25 : decode cX12_go 25 = .ok (.aload_n 0, 1) := decs_at DX12_go_0 12 rfl
theorem dX12_go_26 : decode cX12_go 26 = .ok (.getfield 7, 3) := decs_at DX12_go_0 13 rfl
theorem dX12_go_29 : decode cX12_go 29 = .ok (.aload_n 0, 1) := decs_at DX12_go_0 14 rfl
theorem dX12_go_30 : decode cX12_go 30 = .ok (.getfield 119, 3) := decs_at DX12_go_0 15 rfl
theorem dX12_go_33 : decode cX12_go 33 = .ok (.iaload, 1) := decs_at DX12_go_0 16 rfl
theorem dX12_go_34 : decode cX12_go 34 = .ok (.bipush 10, 2) := decs_at DX12_go_0 17 rfl
theorem dX12_go_36 : decode cX12_go 36 = .ok (.if_icmp .ne 16, 3) := decs_at DX12_go_0 18 rfl
theorem dX12_go_39 : decode cX12_go 39 = .ok (.aload_n 0, 1) := decs_at DX12_go_0 19 rfl
theorem dX12_go_40 : decode cX12_go 40 = .ok (.dup, 1) := decs_at DX12_go_0 20 rfl
theorem dX12_go_41 : decode cX12_go 41 = .ok (.getfield 119, 3) := decs_at DX12_go_0 21 rfl
theorem dX12_go_44 : decode cX12_go 44 = .ok (.iconst 1, 1) := decs_at DX12_go_0 22 rfl
theorem dX12_go_45 : decode cX12_go 45 = .ok (.iadd, 1) := decs_at DX12_go_0 23 rfl
theorem DX12_go_24 : decs cX12_go [(46, .putfield 119, 3), (49, .goto (-49), 3), (52, .aload_n 0, 1), (53, .aload_n 0, 1), (54, .getfield 119, 3), (57, .putfield 122, 3), (60, .aload_n 0, 1), (61, .getfield 116, 3), (64, .aload_n 0, 1), (65, .getfield 125, 3), (68, .if_icmp .le 28, 3), (71, .aload_n 0, 1), (72, .getfield 122, 3), (75, .aload_n 0, 1), (76, .getfield 125, 3), (79, .if_icmp .lt 17, 3), (82, .aload_n 0, 1), (83, .aload_n 0, 1), (84, .getfield 125, 3), (87, .putfield 122, 3), (90, .aload_n 0, 1), (91, .iconst 1, 1), (92, .putfield 128, 3), (95, .return_, 1)] := by unfold decs; decide +kernel
theorem dX12_go_46 : decode cX12_go 46 = .ok (.putfield 119, 3) := decs_at DX12_go_24 0 rfl
theorem dX12_go_49 : decode cX12_go 49 = .ok (.goto (-49), 3) := decs_at DX12_go_24 1 rfl
theorem dX12_go_52 : decode cX12_go 52 = .ok (.aload_n 0, 1) := decs_at DX12_go_24 2 rfl
theorem dX12_go_53 : decode cX12_go 53 = .ok (.aload_n 0, 1) := decs_at DX12_go_24 3 rfl
theorem dX12_go_54 : decode cX12_go 54 = .ok (.getfield 119, 3) := decs_at DX12_go_24 4 rfl
theorem dX12_go_57 : decode cX12_go 57 = .ok (.putfield 122, 3) := decs_at DX12_go_24 5 rfl
theorem dX12_go_60 : decode cX12_go 60 = .ok (.aload_n 0, 1) := decs_at DX12_go_24 6 rfl
theorem dX12_go_61 : decode cX12_go 61 = .ok (.getfield 116, 3) := decs_at DX12_go_24 7 rfl
theorem dX12_go_64 : decode cX12_go 64 = .ok (.aload_n 0, 1) := decs_at DX12_go_24 8 rfl
theorem dX12_go_65 : decode cX12_go 65 = .ok (.getfield 125, 3) := decs_at DX12_go_24 9 rfl
theorem dX12_go_68 : decode cX12_go 68 = .ok (.if_icmp .le 28, 3) := decs_at DX12_go_24 10 rfl
theorem dX12_go_71 : decode cX12_go 71 = .ok (.aload_n 0, 1) := decs_at DX12_go_24 11 rfl
theorem dX12_go_72 : decode cX12_go 72 = .ok (.getfield 122, 3) := decs_at DX12_go_24 12 rfl
theorem dX12_go_75 : decode cX12_go 75 = .ok (.aload_n 0, 1) := decs_at DX12_go_24 13 rfl
theorem dX12_go_76 : decode cX12_go 76 = .ok (.getfield 125, 3) := decs_at DX12_go_24 14 rfl
theorem dX12_go_79 : decode cX12_go 79 = .ok (.if_icmp .lt 17, 3) := decs_at DX12_go_24 15 rfl
theorem dX12_go_82 : decode cX12_go 82 = .ok (.aload_n 0, 1) := decs_at DX12_go_24 16 rfl
theorem dX12_go_83 : decode cX12_go 83 = .ok (.aload_n 0, 1) := decs_at DX12_go_24 17 rfl
theorem dX12_go_84 : decode cX12_go 84 = .ok (.getfield 125, 3) := decs_at DX12_go_24 18 rfl
theorem dX12_go_87 : decode cX12_go 87 = .ok (.putfield 122, 3) := decs_at DX12_go_24 19 rfl
theorem dX12_go_90 : decode cX12_go 90 = .ok (.aload_n 0, 1) := decs_at DX12_go_24 20 rfl
theorem dX12_go_91 : decode cX12_go 91 = .ok (.iconst 1, 1) := decs_at DX12_go_24 21 rfl
theorem dX12_go_92 : decode cX12_go 92 = .ok (.putfield 128, 3) := decs_at DX12_go_24 22 rfl
theorem dX12_go_95 : decode cX12_go 95 = .ok (.return_, 1) := decs_at DX12_go_24 23 rfl
theorem DX12_go_48 : decs cX12_go [(96, .aload_n 0, 1), (97, .getfield 119, 3), (100, .aload_n 0, 1), (101, .getfield 116, 3), (104, .if_icmp .lt 9, 3), (107, .aload_n 0, 1), (108, .iconst 0, 1), (109, .putfield 128, 3), (112, .return_, 1), (113, .aload_n 0, 1), (114, .getfield 7, 3), (117, .aload_n 0, 1), (118, .getfield 119, 3), (121, .iaload, 1), (122, .istore_n 1, 1), (123, .iload_n 1, 1), (124, .invokestatic 131, 3), (127, .ifCond .ne 36, 3), (130, .iload_n 1, 1), (131, .invokestatic 135, 3), (134, .ifCond .ne 29, 3), (137, .aload_n 0, 1), (138, .iload_n 1, 1), (139, .bipush 59, 2)] := by unfold decs; decide +kernel
theorem dX12_go_96 : decode cX12_go 96 = .ok (.aload_n 0, 1) := decs_at DX12_go_48 0 rfl
theorem dX12_go_97 : decode cX12_go 97 = .ok (.getfield 119, 3) := decs_at DX12_go_48 1 rfl
theorem dX12_go_100 : decode cX12_go 100 = .ok (.aload_n 0, 1) := decs_at DX12_go_48 2 rfl
theorem dX12_go_101 : decode cX12_go 101 = .ok (.getfield 116, 3) := decs_at DX12_go_48 3 rfl
theorem dX12_go_104 : decode cX12_go 104 = .ok (.if_icmp .lt 9, 3) := decs_at DX12_go_48 4 rfl
theorem dX12_go_107 : decode cX12_go 107 = .ok (.aload_n 0, 1) := decs_at DX12_go_48 5 rfl
theorem dX12_go_108 : decode cX12_go 108 = .ok (.iconst 0, 1) := decs_at DX12_go_48 6 rfl
theorem dX12_go_109 : decode cX12_go 109 = .ok (.putfield 128, 3) := decs_at DX12_go_48 7 rfl
theorem dX12_go_112 : decode cX12_go 112 = .ok (.return_, 1) := decs_at DX12_go_48 8 rfl
theorem dX12_go_113 : decode cX12_go 113 = .ok (.aload_n 0, 1) := decs_at DX12_go_48 9 rfl
theorem dX12_go_114 : decode cX12_go 114 = .ok (.getfield 7, 3) := decs_at DX12_go_48 10 rfl
theorem dX12_go_117 : decode cX12_go 117 = .ok (.aload_n 0, 1) := decs_at DX12_go_48 11 rfl
theorem dX12_go_118 : decode cX12_go 118 = .ok (.getfield 119, 3) := decs_at DX12_go_48 12 rfl
theorem dX12_go_121 : decode cX12_go 121 = .ok (.iaload, 1) := decs_at DX12_go_48 13 rfl
theorem dX12_go_122 : decode cX12_go 122 = .ok (.istore_n 1, 1) := decs_at DX12_go_48 14 rfl
theorem dX12_go_123 : decode cX12_go 123 = .ok (.iload_n 1, 1) := decs_at DX12_go_48 15 rfl
theorem dX12_go_124 : decode cX12_go 124 = .ok (.invokestatic 131, 3) := decs_at DX12_go_48 16 rfl
theorem dX12_go_127 : decode cX12_go 127 = .ok (.ifCond .ne 36, 3) := decs_at DX12_go_48 17 rfl
theorem dX12_go_130 : decode cX12_go 130 = .ok (.iload_n 1, 1) := decs_at DX12_go_48 18 rfl
theorem dX12_go_131 : decode cX12_go 131 = .ok (.invokestatic 135, 3) := decs_at DX12_go_48 19 rfl
theorem dX12_go_134 : decode cX12_go 134 = .ok (.ifCond .ne 29, 3) := decs_at DX12_go_48 20 rfl
theorem dX12_go_137 : decode cX12_go 137 = .ok (.aload_n 0, 1) := decs_at DX12_go_48 21 rfl
theorem dX12_go_138 : decode cX12_go 138 = .ok (.iload_n 1, 1) := decs_at DX12_go_48 22 rfl
theorem dX12_go_139 : decode cX12_go 139 = .ok (.bipush 59, 2) := decs_at DX12_go_48 23 rfl
theorem DX12_go_72 : decs cX12_go [(141, .if_icmp .ne 7, 3), (144, .iconst 4, 1), (145, .goto 4, 3), (148, .iconst 1, 1), (149, .putfield 128, 3), (152, .aload_n 0, 1), (153, .dup, 1), (154, .getfield 119, 3), (157, .iconst 1, 1), (158, .iadd, 1), (159, .putfield 119, 3), (162, .return_, 1), (163, .iload_n 1, 1), (164, .invokestatic 131, 3), (167, .istore_n 2, 1), (168, .iconst 1, 1), (169, .istore_n 3, 1), (170, .aload_n 0, 1), (171, .lconst 0, 1), (172, .putfield 138, 3), (175, .aload_n 0, 1), (176, .iconst 0, 1), (177, .putfield 142, 3), (180, .aload_n 0, 1)] := by unfold decs; decide +kernel
theorem dX12_go_141 : decode cX12_go 141 = .ok (.if_icmp .ne 7, 3) := decs_at DX12_go_72 0 rfl
theorem dX12_go_144 : decode cX12_go 144 = .ok (.iconst 4, 1) := decs_at DX12_go_72 1 rfl
theorem dX12_go_145 : decode cX12_go 145 = .ok (.goto 4, 3) := decs_at DX12_go_72 2 rfl
theorem dX12_go_148 : decode cX12_go 148 = .ok (.iconst 1, 1) := decs_at DX12_go_72 3 rfl
theorem dX12_go_149 : decode cX12_go 149 = .ok (.putfield 128, 3) := decs_at DX12_go_72 4 rfl
theorem dX12_go_152 : decode cX12_go 152 = .ok (.aload_n 0, 1) := decs_at DX12_go_72 5 rfl
theorem dX12_go_153 : decode cX12_go 153 = .ok (.dup, 1) := decs_at DX12_go_72 6 rfl
theorem dX12_go_154 : decode cX12_go 154 = .ok (.getfield 119, 3) := decs_at DX12_go_72 7 rfl
theorem dX12_go_157 : decode cX12_go 157 = .ok (.iconst 1, 1) := decs_at DX12_go_72 8 rfl
theorem dX12_go_158 : decode cX12_go 158 = .ok (.iadd, 1) := decs_at DX12_go_72 9 rfl
theorem dX12_go_159 : decode cX12_go 159 = .ok (.putfield 119, 3) := decs_at DX12_go_72 10 rfl
theorem dX12_go_162 : decode cX12_go 162 = .ok (.return_, 1) := decs_at DX12_go_72 11 rfl
theorem dX12_go_163 : decode cX12_go 163 = .ok (.iload_n 1, 1) := decs_at DX12_go_72 12 rfl
theorem dX12_go_164 : decode cX12_go 164 = .ok (.invokestatic 131, 3) := decs_at DX12_go_72 13 rfl
theorem dX12_go_167 : decode cX12_go 167 = .ok (.istore_n 2, 1) := decs_at DX12_go_72 14 rfl
theorem dX12_go_168 : decode cX12_go 168 = .ok (.iconst 1, 1) := decs_at DX12_go_72 15 rfl
theorem dX12_go_169 : decode cX12_go 169 = .ok (.istore_n 3, 1) := decs_at DX12_go_72 16 rfl
theorem dX12_go_170 : decode cX12_go 170 = .ok (.aload_n 0, 1) := decs_at DX12_go_72 17 rfl
theorem dX12_go_171 : decode cX12_go 171 = .ok (.lconst 0, 1) := decs_at DX12_go_72 18 rfl
theorem dX12_go_172 : decode cX12_go 172 = .ok (.putfield 138, 3) := decs_at DX12_go_72 19 rfl
theorem dX12_go_175 : decode cX12_go 175 = .ok (.aload_n 0, 1) := decs_at DX12_go_72 20 rfl
theorem dX12_go_176 : decode cX12_go 176 = .ok (.iconst 0, 1) := decs_at DX12_go_72 21 rfl
theorem dX12_go_177 : decode cX12_go 177 = .ok (.putfield 142, 3) := decs_at DX12_go_72 22 rfl
theorem dX12_go_180 : decode cX12_go 180 = .ok (.aload_n 0, 1) := decs_at DX12_go_72 23 rfl
theorem DX12_go_96 : decs cX12_go [(181, .aload_n 0, 1), (182, .getfield 119, 3), (185, .invokevirtual 145, 3), (188, .invokestatic 131, 3), (191, .ifCond .ne 17, 3), (194, .aload_n 0, 1), (195, .aload_n 0, 1), (196, .getfield 119, 3), (199, .invokevirtual 145, 3), (202, .invokestatic 135, 3), (205, .ifCond .eq 109, 3), (208, .aload_n 0, 1), (209, .getfield 7, 3), (212, .aload_n 0, 1), (213, .getfield 119, 3), (216, .iaload, 1), (217, .istore 4, 2), (219, .iload_n 3, 1), (220, .ifCond .eq 16, 3), (223, .iload 4, 2), (225, .invokestatic 131, 3), (228, .iload_n 2, 1), (229, .if_icmp .ne 7, 3), (232, .iconst 1, 1)] := by unfold decs; decide +kernel
theorem dX12_go_181 : decode cX12_go 181 = .ok (.aload_n 0, 1) := decs_at DX12_go_96 0 rfl
theorem dX12_go_182 : decode cX12_go 182 = .ok (.getfield 119, 3) := decs_at DX12_go_96 1 rfl
theorem dX12_go_185 : decode cX12_go 185 = .ok (.invokevirtual 145, 3) := decs_at DX12_go_96 2 rfl
theorem dX12_go_188 : decode cX12_go 188 = .ok (.invokestatic 131, 3) := decs_at DX12_go_96 3 rfl
theorem dX12_go_191 : decode cX12_go 191 = .ok (.ifCond .ne 17, 3) := decs_at DX12_go_96 4 rfl
theorem dX12_go_194 : decode cX12_go 194 = .ok (.aload_n 0, 1) := decs_at DX12_go_96 5 rfl
theorem dX12_go_195 : decode cX12_go 195 = .ok (.aload_n 0, 1) := decs_at DX12_go_96 6 rfl
theorem dX12_go_196 : decode cX12_go 196 = .ok (.getfield 119, 3) := decs_at DX12_go_96 7 rfl
theorem dX12_go_199 : decode cX12_go 199 = .ok (.invokevirtual 145, 3) := decs_at DX12_go_96 8 rfl
theorem dX12_go_202 : decode cX12_go 202 = .ok (.invokestatic 135, 3) := decs_at DX12_go_96 9 rfl
theorem dX12_go_205 : decode cX12_go 205 = .ok (.ifCond .eq 109, 3) := decs_at DX12_go_96 10 rfl
theorem dX12_go_208 : decode cX12_go 208 = .ok (.aload_n 0, 1) := decs_at DX12_go_96 11 rfl
theorem dX12_go_209 : decode cX12_go 209 = .ok (.getfield 7, 3) := decs_at DX12_go_96 12 rfl
theorem dX12_go_212 : decode cX12_go 212 = .ok (.aload_n 0, 1) := decs_at DX12_go_96 13 rfl
theorem dX12_go_213 : decode cX12_go 213 = .ok (.getfield 119, 3) := decs_at DX12_go_96 14 rfl
theorem dX12_go_216 : decode cX12_go 216 = .ok (.iaload, 1) := decs_at DX12_go_96 15 rfl
theorem dX12_go_217 : decode cX12_go 217 = .ok (.istore 4, 2) := decs_at DX12_go_96 16 rfl
theorem dX12_go_219 : decode cX12_go 219 = .ok (.iload_n 3, 1) := decs_at DX12_go_96 17 rfl
theorem dX12_go_220 : decode cX12_go 220 = .ok (.ifCond .eq 16, 3) := decs_at DX12_go_96 18 rfl
theorem dX12_go_223 : decode cX12_go 223 = .ok (.iload 4, 2) := decs_at DX12_go_96 19 rfl
theorem dX12_go_225 : decode cX12_go 225 = .ok (.invokestatic 131, 3) := decs_at DX12_go_96 20 rfl
theorem dX12_go_228 : decode cX12_go 228 = .ok (.iload_n 2, 1) := decs_at DX12_go_96 21 rfl
theorem dX12_go_229 : decode cX12_go 229 = .ok (.if_icmp .ne 7, 3) := decs_at DX12_go_96 22 rfl
theorem dX12_go_232 : decode cX12_go 232 = .ok (.iconst 1, 1) := decs_at DX12_go_96 23 rfl
theorem DX12_go_120 : decs cX12_go [(233, .goto 4, 3), (236, .iconst 0, 1), (237, .istore_n 3, 1), (238, .aload_n 0, 1), (239, .getfield 119, 3), (242, .aload_n 0, 1), (243, .getfield 122, 3), (246, .isub, 1), (247, .iconst 5, 1), (248, .if_icmp .ge 23, 3), (251, .aload_n 0, 1), (252, .ldc2_w 149, 3), (255, .aload_n 0, 1), (256, .getfield 138, 3), (259, .lmul, 1), (260, .iload 4, 2), (262, .i2l, 1), (263, .ladd, 1), (264, .ldc2_w 151, 3), (267, .lsub, 1), (268, .putfield 138, 3), (271, .aload_n 0, 1), (272, .getfield 119, 3), (275, .aload_n 0, 1)] := by unfold decs; decide +kernel
theorem dX12_go_233 : decode cX12_go 233 = .ok (.goto 4, 3) := decs_at DX12_go_120 0 rfl
theorem dX12_go_236 : decode cX12_go 236 = .ok (.iconst 0, 1) := decs_at DX12_go_120 1 rfl
theorem dX12_go_237 : decode cX12_go 237 = .ok (.istore_n 3, 1) := decs_at DX12_go_120 2 rfl
theorem dX12_go_238 : decode cX12_go 238 = .ok (.aload_n 0, 1) := decs_at DX12_go_120 3 rfl
theorem dX12_go_239 : decode cX12_go 239 = .ok (.getfield 119, 3) := decs_at DX12_go_120 4 rfl
theorem dX12_go_242 : decode cX12_go 242 = .ok (.aload_n 0, 1) := decs_at DX12_go_120 5 rfl
theorem dX12_go_243 : decode cX12_go 243 = .ok (.getfield 122, 3) := decs_at DX12_go_120 6 rfl
theorem dX12_go_246 : decode cX12_go 246 = .ok (.isub, 1) := decs_at DX12_go_120 7 rfl
theorem dX12_go_247 : decode cX12_go 247 = .ok (.iconst 5, 1) := decs_at DX12_go_120 8 rfl
theorem dX12_go_248 : decode cX12_go 248 = .ok (.if_icmp .ge 23, 3) := decs_at DX12_go_120 9 rfl
theorem dX12_go_251 : decode cX12_go 251 = .ok (.aload_n 0, 1) := decs_at DX12_go_120 10 rfl
theorem dX12_go_252 : decode cX12_go 252 = .ok (.ldc2_w 149, 3) := decs_at DX12_go_120 11 rfl
theorem dX12_go_255 : decode cX12_go 255 = .ok (.aload_n 0, 1) := decs_at DX12_go_120 12 rfl
theorem dX12_go_256 : decode cX12_go 256 = .ok (.getfield 138, 3) := decs_at DX12_go_120 13 rfl
theorem dX12_go_259 : decode cX12_go 259 = .ok (.lmul, 1) := decs_at DX12_go_120 14 rfl
theorem dX12_go_260 : decode cX12_go 260 = .ok (.iload 4, 2) := decs_at DX12_go_120 15 rfl
theorem dX12_go_262 : decode cX12_go 262 = .ok (.i2l, 1) := decs_at DX12_go_120 16 rfl
theorem dX12_go_263 : decode cX12_go 263 = .ok (.ladd, 1) := decs_at DX12_go_120 17 rfl
theorem dX12_go_264 : decode cX12_go 264 = .ok (.ldc2_w 151, 3) := decs_at DX12_go_120 18 rfl
theorem dX12_go_267 : decode cX12_go 267 = .ok (.lsub, 1) := decs_at DX12_go_120 19 rfl
theorem dX12_go_268 : decode cX12_go 268 = .ok (.putfield 138, 3) := decs_at DX12_go_120 20 rfl
theorem dX12_go_271 : decode cX12_go 271 = .ok (.aload_n 0, 1) := decs_at DX12_go_120 21 rfl
theorem dX12_go_272 : decode cX12_go 272 = .ok (.getfield 119, 3) := decs_at DX12_go_120 22 rfl
theorem dX12_go_275 : decode cX12_go 275 = .ok (.aload_n 0, 1) := decs_at DX12_go_120 23 rfl
theorem DX12_go_144 : decs cX12_go [(276, .getfield 122, 3), (279, .isub, 1), (280, .iconst 3, 1), (281, .if_icmp .ge 20, 3), (284, .aload_n 0, 1), (285, .bipush 10, 2), (287, .aload_n 0, 1), (288, .getfield 142, 3), (291, .imul, 1), (292, .iload 4, 2), (294, .iadd, 1), (295, .bipush 48, 2), (297, .isub, 1), (298, .putfield 142, 3), (301, .aload_n 0, 1), (302, .dup, 1), (303, .getfield 119, 3), (306, .iconst 1, 1), (307, .iadd, 1), (308, .putfield 119, 3), (311, .goto (-131), 3), (314, .aload_n 0, 1), (315, .iload_n 3, 1), (316, .ifCond .eq 24, 3)] := by unfold decs; decide +kernel
theorem dX12_go_276 : decode cX12_go 276 = .ok (.getfield 122, 3) := decs_at DX12_go_144 0 rfl
theorem dX12_go_279 : decode cX12_go 279 = .ok (.isub, 1) := decs_at DX12_go_144 1 rfl
theorem dX12_go_280 : decode cX12_go 280 = .ok (.iconst 3, 1) := decs_at DX12_go_144 2 rfl
theorem dX12_go_281 : decode cX12_go 281 = .ok (.if_icmp .ge 20, 3) := decs_at DX12_go_144 3 rfl
theorem dX12_go_284 : decode cX12_go 284 = .ok (.aload_n 0, 1) := decs_at DX12_go_144 4 rfl
theorem dX12_go_285 : decode cX12_go 285 = .ok (.bipush 10, 2) := decs_at DX12_go_144 5 rfl
theorem dX12_go_287 : decode cX12_go 287 = .ok (.aload_n 0, 1) := decs_at DX12_go_144 6 rfl
theorem dX12_go_288 : decode cX12_go 288 = .ok (.getfield 142, 3) := decs_at DX12_go_144 7 rfl
theorem dX12_go_291 : decode cX12_go 291 = .ok (.imul, 1) := decs_at DX12_go_144 8 rfl
theorem dX12_go_292 : decode cX12_go 292 = .ok (.iload 4, 2) := decs_at DX12_go_144 9 rfl
theorem dX12_go_294 : decode cX12_go 294 = .ok (.iadd, 1) := decs_at DX12_go_144 10 rfl
theorem dX12_go_295 : decode cX12_go 295 = .ok (.bipush 48, 2) := decs_at DX12_go_144 11 rfl
theorem dX12_go_297 : decode cX12_go 297 = .ok (.isub, 1) := decs_at DX12_go_144 12 rfl
theorem dX12_go_298 : decode cX12_go 298 = .ok (.putfield 142, 3) := decs_at DX12_go_144 13 rfl
theorem dX12_go_301 : decode cX12_go 301 = .ok (.aload_n 0, 1) := decs_at DX12_go_144 14 rfl
theorem dX12_go_302 : decode cX12_go 302 = .ok (.dup, 1) := decs_at DX12_go_144 15 rfl
theorem dX12_go_303 : decode cX12_go 303 = .ok (.getfield 119, 3) := decs_at DX12_go_144 16 rfl
theorem dX12_go_306 : decode cX12_go 306 = .ok (.iconst 1, 1) := decs_at DX12_go_144 17 rfl
theorem dX12_go_307 : decode cX12_go 307 = .ok (.iadd, 1) := decs_at DX12_go_144 18 rfl
theorem dX12_go_308 : decode cX12_go 308 = .ok (.putfield 119, 3) := decs_at DX12_go_144 19 rfl
theorem dX12_go_311 : decode cX12_go 311 = .ok (.goto (-131), 3) := decs_at DX12_go_144 20 rfl
theorem dX12_go_314 : decode cX12_go 314 = .ok (.aload_n 0, 1) := decs_at DX12_go_144 21 rfl
theorem dX12_go_315 : decode cX12_go 315 = .ok (.iload_n 3, 1) := decs_at DX12_go_144 22 rfl
theorem dX12_go_316 : decode cX12_go 316 = .ok (.ifCond .eq 24, 3) := decs_at DX12_go_144 23 rfl
theorem DX12_go_168 : decs cX12_go [(319, .aload_n 0, 1), (320, .getfield 119, 3), (323, .aload_n 0, 1), (324, .getfield 122, 3), (327, .isub, 1), (328, .iload_n 2, 1), (329, .ifCond .eq 7, 3), (332, .iconst 5, 1), (333, .goto 4, 3), (336, .iconst 3, 1), (337, .if_icmp .le 7, 3), (340, .iconst 1, 1), (341, .goto 12, 3), (344, .iload_n 2, 1), (345, .ifCond .eq 7, 3), (348, .iconst 2, 1), (349, .goto 4, 3), (352, .iconst 3, 1), (353, .putfield 128, 3), (356, .return_, 1)] := by unfold decs; decide +kernel
theorem dX12_go_319 : decode cX12_go 319 = .ok (.aload_n 0, 1) := decs_at DX12_go_168 0 rfl
theorem dX12_go_320 : decode cX12_go 320 = .ok (.getfield 119, 3) := decs_at DX12_go_168 1 rfl
theorem dX12_go_323 : decode cX12_go 323 = .ok (.aload_n 0, 1) := decs_at DX12_go_168 2 rfl
theorem dX12_go_324 : decode cX12_go 324 = .ok (.getfield 122, 3) := decs_at DX12_go_168 3 rfl
theorem dX12_go_327 : decode cX12_go 327 = .ok (.isub, 1) := decs_at DX12_go_168 4 rfl
theorem dX12_go_328 : decode cX12_go 328 = .ok (.iload_n 2, 1) := decs_at DX12_go_168 5 rfl
theorem dX12_go_329 : decode cX12_go 329 = .ok (.ifCond .eq 7, 3) := decs_at DX12_go_168 6 rfl
theorem dX12_go_332 : decode cX12_go 332 = .ok (.iconst 5, 1) := decs_at DX12_go_168 7 rfl
theorem dX12_go_333 : decode cX12_go 333 = .ok (.goto 4, 3) := decs_at DX12_go_168 8 rfl
theorem dX12_go_336 : decode cX12_go 336 = .ok (.iconst 3, 1) := decs_at DX12_go_168 9 rfl
theorem dX12_go_337 : decode cX12_go 337 = .ok (.if_icmp .le 7, 3) := decs_at DX12_go_168 10 rfl
theorem dX12_go_340 : decode cX12_go 340 = .ok (.iconst 1, 1) := decs_at DX12_go_168 11 rfl
theorem dX12_go_341 : decode cX12_go 341 = .ok (.goto 12, 3) := decs_at DX12_go_168 12 rfl
theorem dX12_go_344 : decode cX12_go 344 = .ok (.iload_n 2, 1) := decs_at DX12_go_168 13 rfl
theorem dX12_go_345 : decode cX12_go 345 = .ok (.ifCond .eq 7, 3) := decs_at DX12_go_168 14 rfl
theorem dX12_go_348 : decode cX12_go 348 = .ok (.iconst 2, 1) := decs_at DX12_go_168 15 rfl
theorem dX12_go_349 : decode cX12_go 349 = .ok (.goto 4, 3) := decs_at DX12_go_168 16 rfl
theorem dX12_go_352 : decode cX12_go 352 = .ok (.iconst 3, 1) := decs_at DX12_go_168 17 rfl
theorem dX12_go_353 : decode cX12_go 353 = .ok (.putfield 128, 3) := decs_at DX12_go_168 18 rfl
theorem dX12_go_356 : decode cX12_go 356 = .ok (.return_, 1) := decs_at DX12_go_168 19 rfl
theorem DX12_spelt_0 : decs cX12_spelt [(0, .ldc2_w 149, 3), (3, .iload_n 0, 1), (4, .i2l, 1), (5, .ldc2_w 151, 3), (8, .lsub, 1), (9, .lmul, 1), (10, .iload_n 1, 1), (11, .i2l, 1), (12, .ladd, 1), (13, .ldc2_w 151, 3), (16, .lsub, 1), (17, .lstore 5, 2), (19, .iload_n 2, 1), (20, .ifCond .le 18, 3), (23, .ldc2_w 149, 3), (26, .lload 5, 2), (28, .lmul, 1), (29, .iload_n 2, 1), (30, .i2l, 1), (31, .ladd, 1), (32, .ldc2_w 151, 3), (35, .lsub, 1), (36, .lstore 5, 2), (38, .iload_n 3, 1)] := by unfold decs; decide +kernel
theorem dX12_spelt_0 : decode cX12_spelt 0 = .ok (.ldc2_w 149, 3) := decs_at DX12_spelt_0 0 rfl
theorem dX12_spelt_3 : decode cX12_spelt 3 = .ok (.iload_n 0, 1) := decs_at DX12_spelt_0 1 rfl
theorem dX12_spelt_4 : decode cX12_spelt 4 = .ok (.i2l, 1) := decs_at DX12_spelt_0 2 rfl
theorem dX12_spelt_5 : decode cX12_spelt 5 = .ok (.ldc2_w 151, 3) := decs_at DX12_spelt_0 3 rfl
theorem dX12_spelt_8 : decode cX12_spelt 8 = .ok (.lsub, 1) := decs_at DX12_spelt_0 4 rfl
theorem dX12_spelt_9 : decode cX12_spelt 9 = .ok (.lmul, 1) := decs_at DX12_spelt_0 5 rfl
theorem dX12_spelt_10 : decode cX12_spelt 10 = .ok (.iload_n 1, 1) := decs_at DX12_spelt_0 6 rfl
theorem dX12_spelt_11 : decode cX12_spelt 11 = .ok (.i2l, 1) := decs_at DX12_spelt_0 7 rfl
theorem dX12_spelt_12 : decode cX12_spelt 12 = .ok (.ladd, 1) := decs_at DX12_spelt_0 8 rfl
theorem dX12_spelt_13 : decode cX12_spelt 13 = .ok (.ldc2_w 151, 3) := decs_at DX12_spelt_0 9 rfl
theorem dX12_spelt_16 : decode cX12_spelt 16 = .ok (.lsub, 1) := decs_at DX12_spelt_0 10 rfl
theorem dX12_spelt_17 : decode cX12_spelt 17 = .ok (.lstore 5, 2) := decs_at DX12_spelt_0 11 rfl
theorem dX12_spelt_19 : decode cX12_spelt 19 = .ok (.iload_n 2, 1) := decs_at DX12_spelt_0 12 rfl
theorem dX12_spelt_20 : decode cX12_spelt 20 = .ok (.ifCond .le 18, 3) := decs_at DX12_spelt_0 13 rfl
theorem dX12_spelt_23 : decode cX12_spelt 23 = .ok (.ldc2_w 149, 3) := decs_at DX12_spelt_0 14 rfl
theorem dX12_spelt_26 : decode cX12_spelt 26 = .ok (.lload 5, 2) := decs_at DX12_spelt_0 15 rfl
theorem dX12_spelt_28 : decode cX12_spelt 28 = .ok (.lmul, 1) := decs_at DX12_spelt_0 16 rfl
theorem dX12_spelt_29 : decode cX12_spelt 29 = .ok (.iload_n 2, 1) := decs_at DX12_spelt_0 17 rfl
theorem dX12_spelt_30 : decode cX12_spelt 30 = .ok (.i2l, 1) := decs_at DX12_spelt_0 18 rfl
theorem dX12_spelt_31 : decode cX12_spelt 31 = .ok (.ladd, 1) := decs_at DX12_spelt_0 19 rfl
theorem dX12_spelt_32 : decode cX12_spelt 32 = .ok (.ldc2_w 151, 3) := decs_at DX12_spelt_0 20 rfl
theorem dX12_spelt_35 : decode cX12_spelt 35 = .ok (.lsub, 1) := decs_at DX12_spelt_0 21 rfl
theorem dX12_spelt_36 : decode cX12_spelt 36 = .ok (.lstore 5, 2) := decs_at DX12_spelt_0 22 rfl
theorem dX12_spelt_38 : decode cX12_spelt 38 = .ok (.iload_n 3, 1) := decs_at DX12_spelt_0 23 rfl
theorem DX12_spelt_24 : decs cX12_spelt [(39, .ifCond .le 18, 3), (42, .ldc2_w 149, 3), (45, .lload 5, 2), (47, .lmul, 1), (48, .iload_n 3, 1), (49, .i2l, 1), (50, .ladd, 1), (51, .ldc2_w 151, 3), (54, .lsub, 1), (55, .lstore 5, 2), (57, .iload 4, 2), (59, .ifCond .le 20, 3), (62, .ldc2_w 149, 3), (65, .lload 5, 2), (67, .lmul, 1), (68, .iload 4, 2), (70, .i2l, 1), (71, .ladd, 1), (72, .ldc2_w 151, 3), (75, .lsub, 1), (76, .goto 5, 3), (79, .lload 5, 2), (81, .lreturn, 1)] := by unfold decs; decide +kernel
theorem dX12_spelt_39 : decode cX12_spelt 39 = .ok (.ifCond .le 18, 3) := decs_at DX12_spelt_24 0 rfl
theorem dX12_spelt_42 : decode cX12_spelt 42 = .ok (.ldc2_w 149, 3) := decs_at DX12_spelt_24 1 rfl
theorem dX12_spelt_45 : decode cX12_spelt 45 = .ok (.lload 5, 2) := decs_at DX12_spelt_24 2 rfl
theorem dX12_spelt_47 : decode cX12_spelt 47 = .ok (.lmul, 1) := decs_at DX12_spelt_24 3 rfl
theorem dX12_spelt_48 : decode cX12_spelt 48 = .ok (.iload_n 3, 1) := decs_at DX12_spelt_24 4 rfl
theorem dX12_spelt_49 : decode cX12_spelt 49 = .ok (.i2l, 1) := decs_at DX12_spelt_24 5 rfl
theorem dX12_spelt_50 : decode cX12_spelt 50 = .ok (.ladd, 1) := decs_at DX12_spelt_24 6 rfl
theorem dX12_spelt_51 : decode cX12_spelt 51 = .ok (.ldc2_w 151, 3) := decs_at DX12_spelt_24 7 rfl
theorem dX12_spelt_54 : decode cX12_spelt 54 = .ok (.lsub, 1) := decs_at DX12_spelt_24 8 rfl
theorem dX12_spelt_55 : decode cX12_spelt 55 = .ok (.lstore 5, 2) := decs_at DX12_spelt_24 9 rfl
theorem dX12_spelt_57 : decode cX12_spelt 57 = .ok (.iload 4, 2) := decs_at DX12_spelt_24 10 rfl
theorem dX12_spelt_59 : decode cX12_spelt 59 = .ok (.ifCond .le 20, 3) := decs_at DX12_spelt_24 11 rfl
theorem dX12_spelt_62 : decode cX12_spelt 62 = .ok (.ldc2_w 149, 3) := decs_at DX12_spelt_24 12 rfl
theorem dX12_spelt_65 : decode cX12_spelt 65 = .ok (.lload 5, 2) := decs_at DX12_spelt_24 13 rfl
theorem dX12_spelt_67 : decode cX12_spelt 67 = .ok (.lmul, 1) := decs_at DX12_spelt_24 14 rfl
theorem dX12_spelt_68 : decode cX12_spelt 68 = .ok (.iload 4, 2) := decs_at DX12_spelt_24 15 rfl
theorem dX12_spelt_70 : decode cX12_spelt 70 = .ok (.i2l, 1) := decs_at DX12_spelt_24 16 rfl
theorem dX12_spelt_71 : decode cX12_spelt 71 = .ok (.ladd, 1) := decs_at DX12_spelt_24 17 rfl
theorem dX12_spelt_72 : decode cX12_spelt 72 = .ok (.ldc2_w 151, 3) := decs_at DX12_spelt_24 18 rfl
theorem dX12_spelt_75 : decode cX12_spelt 75 = .ok (.lsub, 1) := decs_at DX12_spelt_24 19 rfl
theorem dX12_spelt_76 : decode cX12_spelt 76 = .ok (.goto 5, 3) := decs_at DX12_spelt_24 20 rfl
theorem dX12_spelt_79 : decode cX12_spelt 79 = .ok (.lload 5, 2) := decs_at DX12_spelt_24 21 rfl
theorem dX12_spelt_81 : decode cX12_spelt 81 = .ok (.lreturn, 1) := decs_at DX12_spelt_24 22 rfl
theorem DX12_isKey_0 : decs cX12_isKey [(0, .aload_n 0, 1), (1, .getfield 128, 3), (4, .iconst 2, 1), (5, .if_icmp .ne 16, 3), (8, .aload_n 0, 1), (9, .getfield 138, 3), (12, .lload_n 1, 1), (13, .lcmp, 1), (14, .ifCond .ne 7, 3), (17, .iconst 1, 1), (18, .goto 4, 3), (21, .iconst 0, 1), (22, .ireturn, 1)] := by unfold decs; decide +kernel
theorem dX12_isKey_0 : decode cX12_isKey 0 = .ok (.aload_n 0, 1) := decs_at DX12_isKey_0 0 rfl
theorem dX12_isKey_1 : decode cX12_isKey 1 = .ok (.getfield 128, 3) := decs_at DX12_isKey_0 1 rfl
theorem dX12_isKey_4 : decode cX12_isKey 4 = .ok (.iconst 2, 1) := decs_at DX12_isKey_0 2 rfl
theorem dX12_isKey_5 : decode cX12_isKey 5 = .ok (.if_icmp .ne 16, 3) := decs_at DX12_isKey_0 3 rfl
theorem dX12_isKey_8 : decode cX12_isKey 8 = .ok (.aload_n 0, 1) := decs_at DX12_isKey_0 4 rfl
theorem dX12_isKey_9 : decode cX12_isKey 9 = .ok (.getfield 138, 3) := decs_at DX12_isKey_0 5 rfl
theorem dX12_isKey_12 : decode cX12_isKey 12 = .ok (.lload_n 1, 1) := decs_at DX12_isKey_0 6 rfl
theorem dX12_isKey_13 : decode cX12_isKey 13 = .ok (.lcmp, 1) := decs_at DX12_isKey_0 7 rfl
theorem dX12_isKey_14 : decode cX12_isKey 14 = .ok (.ifCond .ne 7, 3) := decs_at DX12_isKey_0 8 rfl
theorem dX12_isKey_17 : decode cX12_isKey 17 = .ok (.iconst 1, 1) := decs_at DX12_isKey_0 9 rfl
theorem dX12_isKey_18 : decode cX12_isKey 18 = .ok (.goto 4, 3) := decs_at DX12_isKey_0 10 rfl
theorem dX12_isKey_21 : decode cX12_isKey 21 = .ok (.iconst 0, 1) := decs_at DX12_isKey_0 11 rfl
theorem dX12_isKey_22 : decode cX12_isKey 22 = .ok (.ireturn, 1) := decs_at DX12_isKey_0 12 rfl
theorem DX12_bad_0 : decs cX12_bad [(0, .aload_n 0, 1), (1, .aload_n 0, 1), (2, .getfield 128, 3), (5, .iconst 1, 1), (6, .if_icmp .ne 7, 3), (9, .iconst 1, 1), (10, .goto 4, 3), (13, .iload_n 1, 1), (14, .putfield 153, 3), (17, .aload_n 0, 1), (18, .aload_n 0, 1), (19, .getfield 122, 3), (22, .putfield 156, 3), (25, .iconst 0, 1), (26, .ireturn, 1)] := by unfold decs; decide +kernel
theorem dX12_bad_0 : decode cX12_bad 0 = .ok (.aload_n 0, 1) := decs_at DX12_bad_0 0 rfl
theorem dX12_bad_1 : decode cX12_bad 1 = .ok (.aload_n 0, 1) := decs_at DX12_bad_0 1 rfl
theorem dX12_bad_2 : decode cX12_bad 2 = .ok (.getfield 128, 3) := decs_at DX12_bad_0 2 rfl
theorem dX12_bad_5 : decode cX12_bad 5 = .ok (.iconst 1, 1) := decs_at DX12_bad_0 3 rfl
theorem dX12_bad_6 : decode cX12_bad 6 = .ok (.if_icmp .ne 7, 3) := decs_at DX12_bad_0 4 rfl
theorem dX12_bad_9 : decode cX12_bad 9 = .ok (.iconst 1, 1) := decs_at DX12_bad_0 5 rfl
theorem dX12_bad_10 : decode cX12_bad 10 = .ok (.goto 4, 3) := decs_at DX12_bad_0 6 rfl
theorem dX12_bad_13 : decode cX12_bad 13 = .ok (.iload_n 1, 1) := decs_at DX12_bad_0 7 rfl
theorem dX12_bad_14 : decode cX12_bad 14 = .ok (.putfield 153, 3) := decs_at DX12_bad_0 8 rfl
theorem dX12_bad_17 : decode cX12_bad 17 = .ok (.aload_n 0, 1) := decs_at DX12_bad_0 9 rfl
theorem dX12_bad_18 : decode cX12_bad 18 = .ok (.aload_n 0, 1) := decs_at DX12_bad_0 10 rfl
theorem dX12_bad_19 : decode cX12_bad 19 = .ok (.getfield 122, 3) := decs_at DX12_bad_0 11 rfl
theorem dX12_bad_22 : decode cX12_bad 22 = .ok (.putfield 156, 3) := decs_at DX12_bad_0 12 rfl
theorem dX12_bad_25 : decode cX12_bad 25 = .ok (.iconst 0, 1) := decs_at DX12_bad_0 13 rfl
theorem dX12_bad_26 : decode cX12_bad 26 = .ok (.ireturn, 1) := decs_at DX12_bad_0 14 rfl
theorem DX12_readNumber_0 : decs cX12_readNumber [(0, .aload_n 0, 1), (1, .getfield 128, 3), (4, .iconst 3, 1), (5, .if_icmp .eq 9, 3), (8, .aload_n 0, 1), (9, .iconst 1, 1), (10, .invokevirtual 159, 3), (13, .ireturn, 1), (14, .aload_n 0, 1), (15, .getfield 142, 3), (18, .iload_n 1, 1), (19, .iload_n 2, 1), (20, .invokestatic 162, 3), (23, .ifCond .ne 9, 3), (26, .aload_n 0, 1), (27, .iconst 2, 1), (28, .invokevirtual 159, 3), (31, .ireturn, 1), (32, .aload_n 0, 1), (33, .aload_n 0, 1), (34, .getfield 142, 3), (37, .putfield 166, 3), (40, .aload_n 0, 1), (41, .invokevirtual 169, 3)] := by unfold decs; decide +kernel
theorem dX12_readNumber_0 : decode cX12_readNumber 0 = .ok (.aload_n 0, 1) := decs_at DX12_readNumber_0 0 rfl
theorem dX12_readNumber_1 : decode cX12_readNumber 1 = .ok (.getfield 128, 3) := decs_at DX12_readNumber_0 1 rfl
theorem dX12_readNumber_4 : decode cX12_readNumber 4 = .ok (.iconst 3, 1) := decs_at DX12_readNumber_0 2 rfl
theorem dX12_readNumber_5 : decode cX12_readNumber 5 = .ok (.if_icmp .eq 9, 3) := decs_at DX12_readNumber_0 3 rfl
theorem dX12_readNumber_8 : decode cX12_readNumber 8 = .ok (.aload_n 0, 1) := decs_at DX12_readNumber_0 4 rfl
theorem dX12_readNumber_9 : decode cX12_readNumber 9 = .ok (.iconst 1, 1) := decs_at DX12_readNumber_0 5 rfl
theorem dX12_readNumber_10 : decode cX12_readNumber 10 = .ok (.invokevirtual 159, 3) := decs_at DX12_readNumber_0 6 rfl
theorem dX12_readNumber_13 : decode cX12_readNumber 13 = .ok (.ireturn, 1) := decs_at DX12_readNumber_0 7 rfl
theorem dX12_readNumber_14 : decode cX12_readNumber 14 = .ok (.aload_n 0, 1) := decs_at DX12_readNumber_0 8 rfl
theorem dX12_readNumber_15 : decode cX12_readNumber 15 = .ok (.getfield 142, 3) := decs_at DX12_readNumber_0 9 rfl
theorem dX12_readNumber_18 : decode cX12_readNumber 18 = .ok (.iload_n 1, 1) := decs_at DX12_readNumber_0 10 rfl
theorem dX12_readNumber_19 : decode cX12_readNumber 19 = .ok (.iload_n 2, 1) := decs_at DX12_readNumber_0 11 rfl
theorem dX12_readNumber_20 : decode cX12_readNumber 20 = .ok (.invokestatic 162, 3) := decs_at DX12_readNumber_0 12 rfl
theorem dX12_readNumber_23 : decode cX12_readNumber 23 = .ok (.ifCond .ne 9, 3) := decs_at DX12_readNumber_0 13 rfl
theorem dX12_readNumber_26 : decode cX12_readNumber 26 = .ok (.aload_n 0, 1) := decs_at DX12_readNumber_0 14 rfl
theorem dX12_readNumber_27 : decode cX12_readNumber 27 = .ok (.iconst 2, 1) := decs_at DX12_readNumber_0 15 rfl
theorem dX12_readNumber_28 : decode cX12_readNumber 28 = .ok (.invokevirtual 159, 3) := decs_at DX12_readNumber_0 16 rfl
theorem dX12_readNumber_31 : decode cX12_readNumber 31 = .ok (.ireturn, 1) := decs_at DX12_readNumber_0 17 rfl
theorem dX12_readNumber_32 : decode cX12_readNumber 32 = .ok (.aload_n 0, 1) := decs_at DX12_readNumber_0 18 rfl
theorem dX12_readNumber_33 : decode cX12_readNumber 33 = .ok (.aload_n 0, 1) := decs_at DX12_readNumber_0 19 rfl
theorem dX12_readNumber_34 : decode cX12_readNumber 34 = .ok (.getfield 142, 3) := decs_at DX12_readNumber_0 20 rfl
theorem dX12_readNumber_37 : decode cX12_readNumber 37 = .ok (.putfield 166, 3) := decs_at DX12_readNumber_0 21 rfl
theorem dX12_readNumber_40 : decode cX12_readNumber 40 = .ok (.aload_n 0, 1) := decs_at DX12_readNumber_0 22 rfl
theorem dX12_readNumber_41 : decode cX12_readNumber 41 = .ok (.invokevirtual 169, 3) := decs_at DX12_readNumber_0 23 rfl
theorem DX12_readNumber_24 : decs cX12_readNumber [(44, .iconst 1, 1), (45, .ireturn, 1)] := by unfold decs; decide +kernel
theorem dX12_readNumber_44 : decode cX12_readNumber 44 = .ok (.iconst 1, 1) := decs_at DX12_readNumber_24 0 rfl
theorem dX12_readNumber_45 : decode cX12_readNumber 45 = .ok (.ireturn, 1) := decs_at DX12_readNumber_24 1 rfl
theorem DX12_readEnd_0 : decs cX12_readEnd [(0, .aload_n 0, 1), (1, .getfield 128, 3), (4, .iconst 4, 1), (5, .if_icmp .eq 9, 3), (8, .aload_n 0, 1), (9, .iconst 1, 1), (10, .invokevirtual 159, 3), (13, .ireturn, 1), (14, .aload_n 0, 1), (15, .invokevirtual 169, 3), (18, .iconst 1, 1), (19, .ireturn, 1)] := by unfold decs; decide +kernel
theorem dX12_readEnd_0 : decode cX12_readEnd 0 = .ok (.aload_n 0, 1) := decs_at DX12_readEnd_0 0 rfl
theorem dX12_readEnd_1 : decode cX12_readEnd 1 = .ok (.getfield 128, 3) := decs_at DX12_readEnd_0 1 rfl
theorem dX12_readEnd_4 : decode cX12_readEnd 4 = .ok (.iconst 4, 1) := decs_at DX12_readEnd_0 2 rfl
theorem dX12_readEnd_5 : decode cX12_readEnd 5 = .ok (.if_icmp .eq 9, 3) := decs_at DX12_readEnd_0 3 rfl
theorem dX12_readEnd_8 : decode cX12_readEnd 8 = .ok (.aload_n 0, 1) := decs_at DX12_readEnd_0 4 rfl
theorem dX12_readEnd_9 : decode cX12_readEnd 9 = .ok (.iconst 1, 1) := decs_at DX12_readEnd_0 5 rfl
theorem dX12_readEnd_10 : decode cX12_readEnd 10 = .ok (.invokevirtual 159, 3) := decs_at DX12_readEnd_0 6 rfl
theorem dX12_readEnd_13 : decode cX12_readEnd 13 = .ok (.ireturn, 1) := decs_at DX12_readEnd_0 7 rfl
theorem dX12_readEnd_14 : decode cX12_readEnd 14 = .ok (.aload_n 0, 1) := decs_at DX12_readEnd_0 8 rfl
theorem dX12_readEnd_15 : decode cX12_readEnd 15 = .ok (.invokevirtual 169, 3) := decs_at DX12_readEnd_0 9 rfl
theorem dX12_readEnd_18 : decode cX12_readEnd 18 = .ok (.iconst 1, 1) := decs_at DX12_readEnd_0 10 rfl
theorem dX12_readEnd_19 : decode cX12_readEnd 19 = .ok (.ireturn, 1) := decs_at DX12_readEnd_0 11 rfl
theorem DX12_lay_0 : decs cX12_lay [(0, .aload_n 0, 1), (1, .getfield 172, 3), (4, .ifCond .eq 4, 3), (7, .return_, 1), (8, .aload_n 0, 1), (9, .iconst 1, 1), (10, .putfield 172, 3), (13, .aload_n 0, 1), (14, .getfield 13, 3), (17, .bipush 32, 2), (19, .bipush 50, 2), (21, .iastore, 1), (22, .aload_n 0, 1), (23, .getfield 13, 3), (26, .sipush 160, 3), (29, .bipush 100, 2), (31, .iastore, 1), (32, .return_, 1)] := by unfold decs; decide +kernel
theorem dX12_lay_0 : decode cX12_lay 0 = .ok (.aload_n 0, 1) := decs_at DX12_lay_0 0 rfl
theorem dX12_lay_1 : decode cX12_lay 1 = .ok (.getfield 172, 3) := decs_at DX12_lay_0 1 rfl
theorem dX12_lay_4 : decode cX12_lay 4 = .ok (.ifCond .eq 4, 3) := decs_at DX12_lay_0 2 rfl
theorem dX12_lay_7 : decode cX12_lay 7 = .ok (.return_, 1) := decs_at DX12_lay_0 3 rfl
theorem dX12_lay_8 : decode cX12_lay 8 = .ok (.aload_n 0, 1) := decs_at DX12_lay_0 4 rfl
theorem dX12_lay_9 : decode cX12_lay 9 = .ok (.iconst 1, 1) := decs_at DX12_lay_0 5 rfl
theorem dX12_lay_10 : decode cX12_lay 10 = .ok (.putfield 172, 3) := decs_at DX12_lay_0 6 rfl
theorem dX12_lay_13 : decode cX12_lay 13 = .ok (.aload_n 0, 1) := decs_at DX12_lay_0 7 rfl
theorem dX12_lay_14 : decode cX12_lay 14 = .ok (.getfield 13, 3) := decs_at DX12_lay_0 8 rfl
theorem dX12_lay_17 : decode cX12_lay 17 = .ok (.bipush 32, 2) := decs_at DX12_lay_0 9 rfl
theorem dX12_lay_19 : decode cX12_lay 19 = .ok (.bipush 50, 2) := decs_at DX12_lay_0 10 rfl
theorem dX12_lay_21 : decode cX12_lay 21 = .ok (.iastore, 1) := decs_at DX12_lay_0 11 rfl
theorem dX12_lay_22 : decode cX12_lay 22 = .ok (.aload_n 0, 1) := decs_at DX12_lay_0 12 rfl
theorem dX12_lay_23 : decode cX12_lay 23 = .ok (.getfield 13, 3) := decs_at DX12_lay_0 13 rfl
theorem dX12_lay_26 : decode cX12_lay 26 = .ok (.sipush 160, 3) := decs_at DX12_lay_0 14 rfl
theorem dX12_lay_29 : decode cX12_lay 29 = .ok (.bipush 100, 2) := decs_at DX12_lay_0 15 rfl
theorem dX12_lay_31 : decode cX12_lay 31 = .ok (.iastore, 1) := decs_at DX12_lay_0 16 rfl
theorem dX12_lay_32 : decode cX12_lay 32 = .ok (.return_, 1) := decs_at DX12_lay_0 17 rfl
theorem DX12_isFull_0 : decs cX12_isFull [(0, .aload_n 0, 1), (1, .bipush 102, 2), (3, .bipush 117, 2), (5, .bipush 108, 2), (7, .bipush 108, 2), (9, .iconst 0, 1), (10, .invokestatic 176, 3), (13, .invokevirtual 180, 3), (16, .ireturn, 1)] := by unfold decs; decide +kernel
theorem dX12_isFull_0 : decode cX12_isFull 0 = .ok (.aload_n 0, 1) := decs_at DX12_isFull_0 0 rfl
theorem dX12_isFull_1 : decode cX12_isFull 1 = .ok (.bipush 102, 2) := decs_at DX12_isFull_0 1 rfl
theorem dX12_isFull_3 : decode cX12_isFull 3 = .ok (.bipush 117, 2) := decs_at DX12_isFull_0 2 rfl
theorem dX12_isFull_5 : decode cX12_isFull 5 = .ok (.bipush 108, 2) := decs_at DX12_isFull_0 3 rfl
theorem dX12_isFull_7 : decode cX12_isFull 7 = .ok (.bipush 108, 2) := decs_at DX12_isFull_0 4 rfl
theorem dX12_isFull_9 : decode cX12_isFull 9 = .ok (.iconst 0, 1) := decs_at DX12_isFull_0 5 rfl
theorem dX12_isFull_10 : decode cX12_isFull 10 = .ok (.invokestatic 176, 3) := decs_at DX12_isFull_0 6 rfl
theorem dX12_isFull_13 : decode cX12_isFull 13 = .ok (.invokevirtual 180, 3) := decs_at DX12_isFull_0 7 rfl
theorem dX12_isFull_16 : decode cX12_isFull 16 = .ok (.ireturn, 1) := decs_at DX12_isFull_0 8 rfl
theorem DX12_isFeed_0 : decs cX12_isFeed [(0, .aload_n 0, 1), (1, .bipush 102, 2), (3, .bipush 101, 2), (5, .bipush 101, 2), (7, .bipush 100, 2), (9, .iconst 0, 1), (10, .invokestatic 176, 3), (13, .invokevirtual 180, 3), (16, .ireturn, 1)] := by unfold decs; decide +kernel
theorem dX12_isFeed_0 : decode cX12_isFeed 0 = .ok (.aload_n 0, 1) := decs_at DX12_isFeed_0 0 rfl
theorem dX12_isFeed_1 : decode cX12_isFeed 1 = .ok (.bipush 102, 2) := decs_at DX12_isFeed_0 1 rfl
theorem dX12_isFeed_3 : decode cX12_isFeed 3 = .ok (.bipush 101, 2) := decs_at DX12_isFeed_0 2 rfl
theorem dX12_isFeed_5 : decode cX12_isFeed 5 = .ok (.bipush 101, 2) := decs_at DX12_isFeed_0 3 rfl
theorem dX12_isFeed_7 : decode cX12_isFeed 7 = .ok (.bipush 100, 2) := decs_at DX12_isFeed_0 4 rfl
theorem dX12_isFeed_9 : decode cX12_isFeed 9 = .ok (.iconst 0, 1) := decs_at DX12_isFeed_0 5 rfl
theorem dX12_isFeed_10 : decode cX12_isFeed 10 = .ok (.invokestatic 176, 3) := decs_at DX12_isFeed_0 6 rfl
theorem dX12_isFeed_13 : decode cX12_isFeed 13 = .ok (.invokevirtual 180, 3) := decs_at DX12_isFeed_0 7 rfl
theorem dX12_isFeed_16 : decode cX12_isFeed 16 = .ok (.ireturn, 1) := decs_at DX12_isFeed_0 8 rfl
theorem DX12_isCar_0 : decs cX12_isCar [(0, .aload_n 0, 1), (1, .bipush 99, 2), (3, .bipush 97, 2), (5, .bipush 114, 2), (7, .iconst 0, 1), (8, .iconst 0, 1), (9, .invokestatic 176, 3), (12, .invokevirtual 180, 3), (15, .ireturn, 1)] := by unfold decs; decide +kernel
theorem dX12_isCar_0 : decode cX12_isCar 0 = .ok (.aload_n 0, 1) := decs_at DX12_isCar_0 0 rfl
theorem dX12_isCar_1 : decode cX12_isCar 1 = .ok (.bipush 99, 2) := decs_at DX12_isCar_0 1 rfl
theorem dX12_isCar_3 : decode cX12_isCar 3 = .ok (.bipush 97, 2) := decs_at DX12_isCar_0 2 rfl
theorem dX12_isCar_5 : decode cX12_isCar 5 = .ok (.bipush 114, 2) := decs_at DX12_isCar_0 3 rfl
theorem dX12_isCar_7 : decode cX12_isCar 7 = .ok (.iconst 0, 1) := decs_at DX12_isCar_0 4 rfl
theorem dX12_isCar_8 : decode cX12_isCar 8 = .ok (.iconst 0, 1) := decs_at DX12_isCar_0 5 rfl
theorem dX12_isCar_9 : decode cX12_isCar 9 = .ok (.invokestatic 176, 3) := decs_at DX12_isCar_0 6 rfl
theorem dX12_isCar_12 : decode cX12_isCar 12 = .ok (.invokevirtual 180, 3) := decs_at DX12_isCar_0 7 rfl
theorem dX12_isCar_15 : decode cX12_isCar 15 = .ok (.ireturn, 1) := decs_at DX12_isCar_0 8 rfl
theorem DX12_optionAtHand_0 : decs cX12_optionAtHand [(0, .aload_n 0, 1), (1, .bipush 111, 2), (3, .bipush 117, 2), (5, .bipush 116, 2), (7, .iconst 0, 1), (8, .iconst 0, 1), (9, .invokestatic 176, 3), (12, .invokevirtual 180, 3), (15, .ifCond .eq 6, 3), (18, .bipush 64, 2), (20, .ireturn, 1), (21, .aload_n 0, 1), (22, .bipush 107, 2), (24, .bipush 101, 2), (26, .bipush 101, 2), (28, .bipush 112, 2), (30, .iconst 0, 1), (31, .invokestatic 176, 3), (34, .invokevirtual 180, 3), (37, .ifCond .eq 6, 3), (40, .bipush 96, 2), (42, .ireturn, 1), (43, .aload_n 0, 1), (44, .bipush 108, 2)] := by unfold decs; decide +kernel
theorem dX12_optionAtHand_0 : decode cX12_optionAtHand 0 = .ok (.aload_n 0, 1) := decs_at DX12_optionAtHand_0 0 rfl
theorem dX12_optionAtHand_1 : decode cX12_optionAtHand 1 = .ok (.bipush 111, 2) := decs_at DX12_optionAtHand_0 1 rfl
theorem dX12_optionAtHand_3 : decode cX12_optionAtHand 3 = .ok (.bipush 117, 2) := decs_at DX12_optionAtHand_0 2 rfl
theorem dX12_optionAtHand_5 : decode cX12_optionAtHand 5 = .ok (.bipush 116, 2) := decs_at DX12_optionAtHand_0 3 rfl
theorem dX12_optionAtHand_7 : decode cX12_optionAtHand 7 = .ok (.iconst 0, 1) := decs_at DX12_optionAtHand_0 4 rfl
theorem dX12_optionAtHand_8 : decode cX12_optionAtHand 8 = .ok (.iconst 0, 1) := decs_at DX12_optionAtHand_0 5 rfl
theorem dX12_optionAtHand_9 : decode cX12_optionAtHand 9 = .ok (.invokestatic 176, 3) := decs_at DX12_optionAtHand_0 6 rfl
theorem dX12_optionAtHand_12 : decode cX12_optionAtHand 12 = .ok (.invokevirtual 180, 3) := decs_at DX12_optionAtHand_0 7 rfl
theorem dX12_optionAtHand_15 : decode cX12_optionAtHand 15 = .ok (.ifCond .eq 6, 3) := decs_at DX12_optionAtHand_0 8 rfl
theorem dX12_optionAtHand_18 : decode cX12_optionAtHand 18 = .ok (.bipush 64, 2) := decs_at DX12_optionAtHand_0 9 rfl
theorem dX12_optionAtHand_20 : decode cX12_optionAtHand 20 = .ok (.ireturn, 1) := decs_at DX12_optionAtHand_0 10 rfl
theorem dX12_optionAtHand_21 : decode cX12_optionAtHand 21 = .ok (.aload_n 0, 1) := decs_at DX12_optionAtHand_0 11 rfl
theorem dX12_optionAtHand_22 : decode cX12_optionAtHand 22 = .ok (.bipush 107, 2) := decs_at DX12_optionAtHand_0 12 rfl
theorem dX12_optionAtHand_24 : decode cX12_optionAtHand 24 = .ok (.bipush 101, 2) := decs_at DX12_optionAtHand_0 13 rfl
theorem dX12_optionAtHand_26 : decode cX12_optionAtHand 26 = .ok (.bipush 101, 2) := decs_at DX12_optionAtHand_0 14 rfl
theorem dX12_optionAtHand_28 : decode cX12_optionAtHand 28 = .ok (.bipush 112, 2) := decs_at DX12_optionAtHand_0 15 rfl
theorem dX12_optionAtHand_30 : decode cX12_optionAtHand 30 = .ok (.iconst 0, 1) := decs_at DX12_optionAtHand_0 16 rfl
theorem dX12_optionAtHand_31 : decode cX12_optionAtHand 31 = .ok (.invokestatic 176, 3) := decs_at DX12_optionAtHand_0 17 rfl
theorem dX12_optionAtHand_34 : decode cX12_optionAtHand 34 = .ok (.invokevirtual 180, 3) := decs_at DX12_optionAtHand_0 18 rfl
theorem dX12_optionAtHand_37 : decode cX12_optionAtHand 37 = .ok (.ifCond .eq 6, 3) := decs_at DX12_optionAtHand_0 19 rfl
theorem dX12_optionAtHand_40 : decode cX12_optionAtHand 40 = .ok (.bipush 96, 2) := decs_at DX12_optionAtHand_0 20 rfl
theorem dX12_optionAtHand_42 : decode cX12_optionAtHand 42 = .ok (.ireturn, 1) := decs_at DX12_optionAtHand_0 21 rfl
theorem dX12_optionAtHand_43 : decode cX12_optionAtHand 43 = .ok (.aload_n 0, 1) := decs_at DX12_optionAtHand_0 22 rfl
theorem dX12_optionAtHand_44 : decode cX12_optionAtHand 44 = .ok (.bipush 108, 2) := decs_at DX12_optionAtHand_0 23 rfl
theorem DX12_optionAtHand_24 : decs cX12_optionAtHand [(46, .bipush 101, 2), (48, .bipush 97, 2), (50, .bipush 107, 2), (52, .iconst 0, 1), (53, .invokestatic 176, 3), (56, .invokevirtual 180, 3), (59, .ifCond .eq 7, 3), (62, .sipush 128, 3), (65, .ireturn, 1), (66, .aload_n 0, 1), (67, .bipush 104, 2), (69, .bipush 111, 2), (71, .bipush 115, 2), (73, .bipush 101, 2), (75, .iconst 0, 1), (76, .invokestatic 176, 3), (79, .invokevirtual 180, 3), (82, .ifCond .eq 7, 3), (85, .sipush 160, 3), (88, .ireturn, 1), (89, .aload_n 0, 1), (90, .bipush 115, 2), (92, .bipush 116, 2), (94, .bipush 117, 2)] := by unfold decs; decide +kernel
theorem dX12_optionAtHand_46 : decode cX12_optionAtHand 46 = .ok (.bipush 101, 2) := decs_at DX12_optionAtHand_24 0 rfl
theorem dX12_optionAtHand_48 : decode cX12_optionAtHand 48 = .ok (.bipush 97, 2) := decs_at DX12_optionAtHand_24 1 rfl
theorem dX12_optionAtHand_50 : decode cX12_optionAtHand 50 = .ok (.bipush 107, 2) := decs_at DX12_optionAtHand_24 2 rfl
theorem dX12_optionAtHand_52 : decode cX12_optionAtHand 52 = .ok (.iconst 0, 1) := decs_at DX12_optionAtHand_24 3 rfl
theorem dX12_optionAtHand_53 : decode cX12_optionAtHand 53 = .ok (.invokestatic 176, 3) := decs_at DX12_optionAtHand_24 4 rfl
theorem dX12_optionAtHand_56 : decode cX12_optionAtHand 56 = .ok (.invokevirtual 180, 3) := decs_at DX12_optionAtHand_24 5 rfl
theorem dX12_optionAtHand_59 : decode cX12_optionAtHand 59 = .ok (.ifCond .eq 7, 3) := decs_at DX12_optionAtHand_24 6 rfl
theorem dX12_optionAtHand_62 : decode cX12_optionAtHand 62 = .ok (.sipush 128, 3) := decs_at DX12_optionAtHand_24 7 rfl
theorem dX12_optionAtHand_65 : decode cX12_optionAtHand 65 = .ok (.ireturn, 1) := decs_at DX12_optionAtHand_24 8 rfl
theorem dX12_optionAtHand_66 : decode cX12_optionAtHand 66 = .ok (.aload_n 0, 1) := decs_at DX12_optionAtHand_24 9 rfl
theorem dX12_optionAtHand_67 : decode cX12_optionAtHand 67 = .ok (.bipush 104, 2) := decs_at DX12_optionAtHand_24 10 rfl
theorem dX12_optionAtHand_69 : decode cX12_optionAtHand 69 = .ok (.bipush 111, 2) := decs_at DX12_optionAtHand_24 11 rfl
theorem dX12_optionAtHand_71 : decode cX12_optionAtHand 71 = .ok (.bipush 115, 2) := decs_at DX12_optionAtHand_24 12 rfl
theorem dX12_optionAtHand_73 : decode cX12_optionAtHand 73 = .ok (.bipush 101, 2) := decs_at DX12_optionAtHand_24 13 rfl
theorem dX12_optionAtHand_75 : decode cX12_optionAtHand 75 = .ok (.iconst 0, 1) := decs_at DX12_optionAtHand_24 14 rfl
theorem dX12_optionAtHand_76 : decode cX12_optionAtHand 76 = .ok (.invokestatic 176, 3) := decs_at DX12_optionAtHand_24 15 rfl
theorem dX12_optionAtHand_79 : decode cX12_optionAtHand 79 = .ok (.invokevirtual 180, 3) := decs_at DX12_optionAtHand_24 16 rfl
theorem dX12_optionAtHand_82 : decode cX12_optionAtHand 82 = .ok (.ifCond .eq 7, 3) := decs_at DX12_optionAtHand_24 17 rfl
theorem dX12_optionAtHand_85 : decode cX12_optionAtHand 85 = .ok (.sipush 160, 3) := decs_at DX12_optionAtHand_24 18 rfl
theorem dX12_optionAtHand_88 : decode cX12_optionAtHand 88 = .ok (.ireturn, 1) := decs_at DX12_optionAtHand_24 19 rfl
theorem dX12_optionAtHand_89 : decode cX12_optionAtHand 89 = .ok (.aload_n 0, 1) := decs_at DX12_optionAtHand_24 20 rfl
theorem dX12_optionAtHand_90 : decode cX12_optionAtHand 90 = .ok (.bipush 115, 2) := decs_at DX12_optionAtHand_24 21 rfl
theorem dX12_optionAtHand_92 : decode cX12_optionAtHand 92 = .ok (.bipush 116, 2) := decs_at DX12_optionAtHand_24 22 rfl
theorem dX12_optionAtHand_94 : decode cX12_optionAtHand 94 = .ok (.bipush 117, 2) := decs_at DX12_optionAtHand_24 23 rfl
theorem DX12_optionAtHand_48 : decs cX12_optionAtHand [(96, .bipush 99, 2), (98, .bipush 107, 2), (100, .invokestatic 176, 3), (103, .invokevirtual 180, 3), (106, .ifCond .eq 9, 3), (109, .sipush 192, 3), (112, .goto 4, 3), (115, .iconst (-1), 1), (116, .ireturn, 1)] := by unfold decs; decide +kernel
theorem dX12_optionAtHand_96 : decode cX12_optionAtHand 96 = .ok (.bipush 99, 2) := decs_at DX12_optionAtHand_48 0 rfl
theorem dX12_optionAtHand_98 : decode cX12_optionAtHand 98 = .ok (.bipush 107, 2) := decs_at DX12_optionAtHand_48 1 rfl
theorem dX12_optionAtHand_100 : decode cX12_optionAtHand 100 = .ok (.invokestatic 176, 3) := decs_at DX12_optionAtHand_48 2 rfl
theorem dX12_optionAtHand_103 : decode cX12_optionAtHand 103 = .ok (.invokevirtual 180, 3) := decs_at DX12_optionAtHand_48 3 rfl
theorem dX12_optionAtHand_106 : decode cX12_optionAtHand 106 = .ok (.ifCond .eq 9, 3) := decs_at DX12_optionAtHand_48 4 rfl
theorem dX12_optionAtHand_109 : decode cX12_optionAtHand 109 = .ok (.sipush 192, 3) := decs_at DX12_optionAtHand_48 5 rfl
theorem dX12_optionAtHand_112 : decode cX12_optionAtHand 112 = .ok (.goto 4, 3) := decs_at DX12_optionAtHand_48 6 rfl
theorem dX12_optionAtHand_115 : decode cX12_optionAtHand 115 = .ok (.iconst (-1), 1) := decs_at DX12_optionAtHand_48 7 rfl
theorem dX12_optionAtHand_116 : decode cX12_optionAtHand 116 = .ok (.ireturn, 1) := decs_at DX12_optionAtHand_48 8 rfl
theorem DX12_readCar_0 : decs cX12_readCar [(0, .aload_n 0, 1), (1, .getfield 184, 3), (4, .bipush 16, 2), (6, .if_icmp .ne 9, 3), (9, .aload_n 0, 1), (10, .iconst 4, 1), (11, .invokevirtual 159, 3), (14, .ireturn, 1), (15, .bipush 16, 2), (17, .aload_n 0, 1), (18, .getfield 184, 3), (21, .iadd, 1), (22, .istore_n 1, 1), (23, .aload_n 0, 1), (24, .invokevirtual 169, 3), (27, .aload_n 0, 1), (28, .bipush 113, 2), (30, .bipush 117, 2), (32, .bipush 105, 2), (34, .bipush 99, 2), (36, .bipush 107, 2), (38, .invokestatic 176, 3), (41, .invokevirtual 180, 3), (44, .istore_n 2, 1)] := by unfold decs; decide +kernel
theorem dX12_readCar_0 : decode cX12_readCar 0 = .ok (.aload_n 0, 1) := decs_at DX12_readCar_0 0 rfl
theorem dX12_readCar_1 : decode cX12_readCar 1 = .ok (.getfield 184, 3) := decs_at DX12_readCar_0 1 rfl
theorem dX12_readCar_4 : decode cX12_readCar 4 = .ok (.bipush 16, 2) := decs_at DX12_readCar_0 2 rfl
theorem dX12_readCar_6 : decode cX12_readCar 6 = .ok (.if_icmp .ne 9, 3) := decs_at DX12_readCar_0 3 rfl
theorem dX12_readCar_9 : decode cX12_readCar 9 = .ok (.aload_n 0, 1) := decs_at DX12_readCar_0 4 rfl
theorem dX12_readCar_10 : decode cX12_readCar 10 = .ok (.iconst 4, 1) := decs_at DX12_readCar_0 5 rfl
theorem dX12_readCar_11 : decode cX12_readCar 11 = .ok (.invokevirtual 159, 3) := decs_at DX12_readCar_0 6 rfl
theorem dX12_readCar_14 : decode cX12_readCar 14 = .ok (.ireturn, 1) := decs_at DX12_readCar_0 7 rfl
theorem dX12_readCar_15 : decode cX12_readCar 15 = .ok (.bipush 16, 2) := decs_at DX12_readCar_0 8 rfl
theorem dX12_readCar_17 : decode cX12_readCar 17 = .ok (.aload_n 0, 1) := decs_at DX12_readCar_0 9 rfl
theorem dX12_readCar_18 : decode cX12_readCar 18 = .ok (.getfield 184, 3) := decs_at DX12_readCar_0 10 rfl
theorem dX12_readCar_21 : decode cX12_readCar 21 = .ok (.iadd, 1) := decs_at DX12_readCar_0 11 rfl
theorem dX12_readCar_22 : decode cX12_readCar 22 = .ok (.istore_n 1, 1) := decs_at DX12_readCar_0 12 rfl
theorem dX12_readCar_23 : decode cX12_readCar 23 = .ok (.aload_n 0, 1) := decs_at DX12_readCar_0 13 rfl
theorem dX12_readCar_24 : decode cX12_readCar 24 = .ok (.invokevirtual 169, 3) := decs_at DX12_readCar_0 14 rfl
theorem dX12_readCar_27 : decode cX12_readCar 27 = .ok (.aload_n 0, 1) := decs_at DX12_readCar_0 15 rfl
theorem dX12_readCar_28 : decode cX12_readCar 28 = .ok (.bipush 113, 2) := decs_at DX12_readCar_0 16 rfl
theorem dX12_readCar_30 : decode cX12_readCar 30 = .ok (.bipush 117, 2) := decs_at DX12_readCar_0 17 rfl
theorem dX12_readCar_32 : decode cX12_readCar 32 = .ok (.bipush 105, 2) := decs_at DX12_readCar_0 18 rfl
theorem dX12_readCar_34 : decode cX12_readCar 34 = .ok (.bipush 99, 2) := decs_at DX12_readCar_0 19 rfl
theorem dX12_readCar_36 : decode cX12_readCar 36 = .ok (.bipush 107, 2) := decs_at DX12_readCar_0 20 rfl
theorem dX12_readCar_38 : decode cX12_readCar 38 = .ok (.invokestatic 176, 3) := decs_at DX12_readCar_0 21 rfl
theorem dX12_readCar_41 : decode cX12_readCar 41 = .ok (.invokevirtual 180, 3) := decs_at DX12_readCar_0 22 rfl
theorem dX12_readCar_44 : decode cX12_readCar 44 = .ok (.istore_n 2, 1) := decs_at DX12_readCar_0 23 rfl
theorem DX12_readCar_24 : decs cX12_readCar [(45, .aload_n 0, 1), (46, .bipush 115, 2), (48, .bipush 108, 2), (50, .bipush 111, 2), (52, .bipush 119, 2), (54, .iconst 0, 1), (55, .invokestatic 176, 3), (58, .invokevirtual 180, 3), (61, .istore_n 3, 1), (62, .iload_n 2, 1), (63, .ifCond .ne 31, 3), (66, .iload_n 3, 1), (67, .ifCond .ne 27, 3), (70, .aload_n 0, 1), (71, .bipush 111, 2), (73, .bipush 108, 2), (75, .bipush 100, 2), (77, .iconst 0, 1), (78, .iconst 0, 1), (79, .invokestatic 176, 3), (82, .invokevirtual 180, 3), (85, .ifCond .ne 9, 3), (88, .aload_n 0, 1), (89, .iconst 1, 1)] := by unfold decs; decide +kernel
theorem dX12_readCar_45 : decode cX12_readCar 45 = .ok (.aload_n 0, 1) := decs_at DX12_readCar_24 0 rfl
theorem dX12_readCar_46 : decode cX12_readCar 46 = .ok (.bipush 115, 2) := decs_at DX12_readCar_24 1 rfl
theorem dX12_readCar_48 : decode cX12_readCar 48 = .ok (.bipush 108, 2) := decs_at DX12_readCar_24 2 rfl
theorem dX12_readCar_50 : decode cX12_readCar 50 = .ok (.bipush 111, 2) := decs_at DX12_readCar_24 3 rfl
theorem dX12_readCar_52 : decode cX12_readCar 52 = .ok (.bipush 119, 2) := decs_at DX12_readCar_24 4 rfl
theorem dX12_readCar_54 : decode cX12_readCar 54 = .ok (.iconst 0, 1) := decs_at DX12_readCar_24 5 rfl
theorem dX12_readCar_55 : decode cX12_readCar 55 = .ok (.invokestatic 176, 3) := decs_at DX12_readCar_24 6 rfl
theorem dX12_readCar_58 : decode cX12_readCar 58 = .ok (.invokevirtual 180, 3) := decs_at DX12_readCar_24 7 rfl
theorem dX12_readCar_61 : decode cX12_readCar 61 = .ok (.istore_n 3, 1) := decs_at DX12_readCar_24 8 rfl
theorem dX12_readCar_62 : decode cX12_readCar 62 = .ok (.iload_n 2, 1) := decs_at DX12_readCar_24 9 rfl
theorem dX12_readCar_63 : decode cX12_readCar 63 = .ok (.ifCond .ne 31, 3) := decs_at DX12_readCar_24 10 rfl
theorem dX12_readCar_66 : decode cX12_readCar 66 = .ok (.iload_n 3, 1) := decs_at DX12_readCar_24 11 rfl
theorem dX12_readCar_67 : decode cX12_readCar 67 = .ok (.ifCond .ne 27, 3) := decs_at DX12_readCar_24 12 rfl
theorem dX12_readCar_70 : decode cX12_readCar 70 = .ok (.aload_n 0, 1) := decs_at DX12_readCar_24 13 rfl
theorem dX12_readCar_71 : decode cX12_readCar 71 = .ok (.bipush 111, 2) := decs_at DX12_readCar_24 14 rfl
theorem dX12_readCar_73 : decode cX12_readCar 73 = .ok (.bipush 108, 2) := decs_at DX12_readCar_24 15 rfl
theorem dX12_readCar_75 : decode cX12_readCar 75 = .ok (.bipush 100, 2) := decs_at DX12_readCar_24 16 rfl
theorem dX12_readCar_77 : decode cX12_readCar 77 = .ok (.iconst 0, 1) := decs_at DX12_readCar_24 17 rfl
theorem dX12_readCar_78 : decode cX12_readCar 78 = .ok (.iconst 0, 1) := decs_at DX12_readCar_24 18 rfl
theorem dX12_readCar_79 : decode cX12_readCar 79 = .ok (.invokestatic 176, 3) := decs_at DX12_readCar_24 19 rfl
theorem dX12_readCar_82 : decode cX12_readCar 82 = .ok (.invokevirtual 180, 3) := decs_at DX12_readCar_24 20 rfl
theorem dX12_readCar_85 : decode cX12_readCar 85 = .ok (.ifCond .ne 9, 3) := decs_at DX12_readCar_24 21 rfl
theorem dX12_readCar_88 : decode cX12_readCar 88 = .ok (.aload_n 0, 1) := decs_at DX12_readCar_24 22 rfl
theorem dX12_readCar_89 : decode cX12_readCar 89 = .ok (.iconst 1, 1) := decs_at DX12_readCar_24 23 rfl
theorem DX12_readCar_48 : decs cX12_readCar [(90, .invokevirtual 159, 3), (93, .ireturn, 1), (94, .aload_n 0, 1), (95, .getfield 13, 3), (98, .iconst 0, 1), (99, .iload_n 1, 1), (100, .iadd, 1), (101, .iload_n 2, 1), (102, .ifCond .eq 7, 3), (105, .iconst 1, 1), (106, .goto 12, 3), (109, .iload_n 3, 1), (110, .ifCond .eq 7, 3), (113, .iconst 2, 1), (114, .goto 4, 3), (117, .iconst 0, 1), (118, .iastore, 1), (119, .aload_n 0, 1), (120, .invokevirtual 169, 3), (123, .aload_n 0, 1), (124, .bipush 10, 2), (126, .bipush 99, 2), (128, .invokevirtual 187, 3), (131, .ifCond .ne 5, 3)] := by unfold decs; decide +kernel
theorem dX12_readCar_90 : decode cX12_readCar 90 = .ok (.invokevirtual 159, 3) := decs_at DX12_readCar_48 0 rfl
theorem dX12_readCar_93 : decode cX12_readCar 93 = .ok (.ireturn, 1) := decs_at DX12_readCar_48 1 rfl
theorem dX12_readCar_94 : decode cX12_readCar 94 = .ok (.aload_n 0, 1) := decs_at DX12_readCar_48 2 rfl
theorem dX12_readCar_95 : decode cX12_readCar 95 = .ok (.getfield 13, 3) := decs_at DX12_readCar_48 3 rfl
theorem dX12_readCar_98 : decode cX12_readCar 98 = .ok (.iconst 0, 1) := decs_at DX12_readCar_48 4 rfl
theorem dX12_readCar_99 : decode cX12_readCar 99 = .ok (.iload_n 1, 1) := decs_at DX12_readCar_48 5 rfl
theorem dX12_readCar_100 : decode cX12_readCar 100 = .ok (.iadd, 1) := decs_at DX12_readCar_48 6 rfl
theorem dX12_readCar_101 : decode cX12_readCar 101 = .ok (.iload_n 2, 1) := decs_at DX12_readCar_48 7 rfl
theorem dX12_readCar_102 : decode cX12_readCar 102 = .ok (.ifCond .eq 7, 3) := decs_at DX12_readCar_48 8 rfl
theorem dX12_readCar_105 : decode cX12_readCar 105 = .ok (.iconst 1, 1) := decs_at DX12_readCar_48 9 rfl
theorem dX12_readCar_106 : decode cX12_readCar 106 = .ok (.goto 12, 3) := decs_at DX12_readCar_48 10 rfl
theorem dX12_readCar_109 : decode cX12_readCar 109 = .ok (.iload_n 3, 1) := decs_at DX12_readCar_48 11 rfl
theorem dX12_readCar_110 : decode cX12_readCar 110 = .ok (.ifCond .eq 7, 3) := decs_at DX12_readCar_48 12 rfl
theorem dX12_readCar_113 : decode cX12_readCar 113 = .ok (.iconst 2, 1) := decs_at DX12_readCar_48 13 rfl
theorem dX12_readCar_114 : decode cX12_readCar 114 = .ok (.goto 4, 3) := decs_at DX12_readCar_48 14 rfl
theorem dX12_readCar_117 : decode cX12_readCar 117 = .ok (.iconst 0, 1) := decs_at DX12_readCar_48 15 rfl
theorem dX12_readCar_118 : decode cX12_readCar 118 = .ok (.iastore, 1) := decs_at DX12_readCar_48 16 rfl
theorem dX12_readCar_119 : decode cX12_readCar 119 = .ok (.aload_n 0, 1) := decs_at DX12_readCar_48 17 rfl
theorem dX12_readCar_120 : decode cX12_readCar 120 = .ok (.invokevirtual 169, 3) := decs_at DX12_readCar_48 18 rfl
theorem dX12_readCar_123 : decode cX12_readCar 123 = .ok (.aload_n 0, 1) := decs_at DX12_readCar_48 19 rfl
theorem dX12_readCar_124 : decode cX12_readCar 124 = .ok (.bipush 10, 2) := decs_at DX12_readCar_48 20 rfl
theorem dX12_readCar_126 : decode cX12_readCar 126 = .ok (.bipush 99, 2) := decs_at DX12_readCar_48 21 rfl
theorem dX12_readCar_128 : decode cX12_readCar 128 = .ok (.invokevirtual 187, 3) := decs_at DX12_readCar_48 22 rfl
theorem dX12_readCar_131 : decode cX12_readCar 131 = .ok (.ifCond .ne 5, 3) := decs_at DX12_readCar_48 23 rfl
theorem DX12_readCar_72 : decs cX12_readCar [(134, .iconst 0, 1), (135, .ireturn, 1), (136, .aload_n 0, 1), (137, .getfield 13, 3), (140, .bipush 32, 2), (142, .iload_n 1, 1), (143, .iadd, 1), (144, .aload_n 0, 1), (145, .getfield 166, 3), (148, .iastore, 1), (149, .aload_n 0, 1), (150, .getfield 13, 3), (153, .bipush 64, 2), (155, .iload_n 1, 1), (156, .iadd, 1), (157, .iconst 0, 1), (158, .iastore, 1), (159, .aload_n 0, 1), (160, .getfield 13, 3), (163, .bipush 96, 2), (165, .iload_n 1, 1), (166, .iadd, 1), (167, .iconst 0, 1), (168, .iastore, 1)] := by unfold decs; decide +kernel
theorem dX12_readCar_134 : decode cX12_readCar 134 = .ok (.iconst 0, 1) := decs_at DX12_readCar_72 0 rfl
theorem dX12_readCar_135 : decode cX12_readCar 135 = .ok (.ireturn, 1) := decs_at DX12_readCar_72 1 rfl
theorem dX12_readCar_136 : decode cX12_readCar 136 = .ok (.aload_n 0, 1) := decs_at DX12_readCar_72 2 rfl
theorem dX12_readCar_137 : decode cX12_readCar 137 = .ok (.getfield 13, 3) := decs_at DX12_readCar_72 3 rfl
theorem dX12_readCar_140 : decode cX12_readCar 140 = .ok (.bipush 32, 2) := decs_at DX12_readCar_72 4 rfl
theorem dX12_readCar_142 : decode cX12_readCar 142 = .ok (.iload_n 1, 1) := decs_at DX12_readCar_72 5 rfl
theorem dX12_readCar_143 : decode cX12_readCar 143 = .ok (.iadd, 1) := decs_at DX12_readCar_72 6 rfl
theorem dX12_readCar_144 : decode cX12_readCar 144 = .ok (.aload_n 0, 1) := decs_at DX12_readCar_72 7 rfl
theorem dX12_readCar_145 : decode cX12_readCar 145 = .ok (.getfield 166, 3) := decs_at DX12_readCar_72 8 rfl
theorem dX12_readCar_148 : decode cX12_readCar 148 = .ok (.iastore, 1) := decs_at DX12_readCar_72 9 rfl
theorem dX12_readCar_149 : decode cX12_readCar 149 = .ok (.aload_n 0, 1) := decs_at DX12_readCar_72 10 rfl
theorem dX12_readCar_150 : decode cX12_readCar 150 = .ok (.getfield 13, 3) := decs_at DX12_readCar_72 11 rfl
theorem dX12_readCar_153 : decode cX12_readCar 153 = .ok (.bipush 64, 2) := decs_at DX12_readCar_72 12 rfl
theorem dX12_readCar_155 : decode cX12_readCar 155 = .ok (.iload_n 1, 1) := decs_at DX12_readCar_72 13 rfl
theorem dX12_readCar_156 : decode cX12_readCar 156 = .ok (.iadd, 1) := decs_at DX12_readCar_72 14 rfl
theorem dX12_readCar_157 : decode cX12_readCar 157 = .ok (.iconst 0, 1) := decs_at DX12_readCar_72 15 rfl
theorem dX12_readCar_158 : decode cX12_readCar 158 = .ok (.iastore, 1) := decs_at DX12_readCar_72 16 rfl
theorem dX12_readCar_159 : decode cX12_readCar 159 = .ok (.aload_n 0, 1) := decs_at DX12_readCar_72 17 rfl
theorem dX12_readCar_160 : decode cX12_readCar 160 = .ok (.getfield 13, 3) := decs_at DX12_readCar_72 18 rfl
theorem dX12_readCar_163 : decode cX12_readCar 163 = .ok (.bipush 96, 2) := decs_at DX12_readCar_72 19 rfl
theorem dX12_readCar_165 : decode cX12_readCar 165 = .ok (.iload_n 1, 1) := decs_at DX12_readCar_72 20 rfl
theorem dX12_readCar_166 : decode cX12_readCar 166 = .ok (.iadd, 1) := decs_at DX12_readCar_72 21 rfl
theorem dX12_readCar_167 : decode cX12_readCar 167 = .ok (.iconst 0, 1) := decs_at DX12_readCar_72 22 rfl
theorem dX12_readCar_168 : decode cX12_readCar 168 = .ok (.iastore, 1) := decs_at DX12_readCar_72 23 rfl
theorem DX12_readCar_96 : decs cX12_readCar [(169, .aload_n 0, 1), (170, .getfield 13, 3), (173, .sipush 128, 3), (176, .iload_n 1, 1), (177, .iadd, 1), (178, .iconst 0, 1), (179, .iastore, 1), (180, .aload_n 0, 1), (181, .getfield 13, 3), (184, .sipush 160, 3), (187, .iload_n 1, 1), (188, .iadd, 1), (189, .bipush 100, 2), (191, .iastore, 1), (192, .aload_n 0, 1), (193, .getfield 13, 3), (196, .sipush 192, 3), (199, .iload_n 1, 1), (200, .iadd, 1), (201, .iconst 0, 1), (202, .iastore, 1), (203, .iconst 0, 1), (204, .istore 4, 2), (206, .aload_n 0, 1)] := by unfold decs; decide +kernel
theorem dX12_readCar_169 : decode cX12_readCar 169 = .ok (.aload_n 0, 1) := decs_at DX12_readCar_96 0 rfl
theorem dX12_readCar_170 : decode cX12_readCar 170 = .ok (.getfield 13, 3) := decs_at DX12_readCar_96 1 rfl
theorem dX12_readCar_173 : decode cX12_readCar 173 = .ok (.sipush 128, 3) := decs_at DX12_readCar_96 2 rfl
theorem dX12_readCar_176 : decode cX12_readCar 176 = .ok (.iload_n 1, 1) := decs_at DX12_readCar_96 3 rfl
theorem dX12_readCar_177 : decode cX12_readCar 177 = .ok (.iadd, 1) := decs_at DX12_readCar_96 4 rfl
theorem dX12_readCar_178 : decode cX12_readCar 178 = .ok (.iconst 0, 1) := decs_at DX12_readCar_96 5 rfl
theorem dX12_readCar_179 : decode cX12_readCar 179 = .ok (.iastore, 1) := decs_at DX12_readCar_96 6 rfl
theorem dX12_readCar_180 : decode cX12_readCar 180 = .ok (.aload_n 0, 1) := decs_at DX12_readCar_96 7 rfl
theorem dX12_readCar_181 : decode cX12_readCar 181 = .ok (.getfield 13, 3) := decs_at DX12_readCar_96 8 rfl
theorem dX12_readCar_184 : decode cX12_readCar 184 = .ok (.sipush 160, 3) := decs_at DX12_readCar_96 9 rfl
theorem dX12_readCar_187 : decode cX12_readCar 187 = .ok (.iload_n 1, 1) := decs_at DX12_readCar_96 10 rfl
theorem dX12_readCar_188 : decode cX12_readCar 188 = .ok (.iadd, 1) := decs_at DX12_readCar_96 11 rfl
theorem dX12_readCar_189 : decode cX12_readCar 189 = .ok (.bipush 100, 2) := decs_at DX12_readCar_96 12 rfl
theorem dX12_readCar_191 : decode cX12_readCar 191 = .ok (.iastore, 1) := decs_at DX12_readCar_96 13 rfl
theorem dX12_readCar_192 : decode cX12_readCar 192 = .ok (.aload_n 0, 1) := decs_at DX12_readCar_96 14 rfl
theorem dX12_readCar_193 : decode cX12_readCar 193 = .ok (.getfield 13, 3) := decs_at DX12_readCar_96 15 rfl
theorem dX12_readCar_196 : decode cX12_readCar 196 = .ok (.sipush 192, 3) := decs_at DX12_readCar_96 16 rfl
theorem dX12_readCar_199 : decode cX12_readCar 199 = .ok (.iload_n 1, 1) := decs_at DX12_readCar_96 17 rfl
theorem dX12_readCar_200 : decode cX12_readCar 200 = .ok (.iadd, 1) := decs_at DX12_readCar_96 18 rfl
theorem dX12_readCar_201 : decode cX12_readCar 201 = .ok (.iconst 0, 1) := decs_at DX12_readCar_96 19 rfl
theorem dX12_readCar_202 : decode cX12_readCar 202 = .ok (.iastore, 1) := decs_at DX12_readCar_96 20 rfl
theorem dX12_readCar_203 : decode cX12_readCar 203 = .ok (.iconst 0, 1) := decs_at DX12_readCar_96 21 rfl
theorem dX12_readCar_204 : decode cX12_readCar 204 = .ok (.istore 4, 2) := decs_at DX12_readCar_96 22 rfl
theorem dX12_readCar_206 : decode cX12_readCar 206 = .ok (.aload_n 0, 1) := decs_at DX12_readCar_96 23 rfl
theorem DX12_readCar_120 : decs cX12_readCar [(207, .getfield 128, 3), (210, .iconst 2, 1), (211, .if_icmp .ne 72, 3), (214, .aload_n 0, 1), (215, .invokevirtual 191, 3), (218, .istore 5, 2), (220, .iload 5, 2), (222, .iconst (-1), 1), (223, .if_icmp .ne 9, 3), (226, .aload_n 0, 1), (227, .iconst 1, 1), (228, .invokevirtual 159, 3), (231, .ireturn, 1), (232, .iload 4, 2), (234, .iload 5, 2), (236, .bipush 32, 2), (238, .idiv, 1), (239, .ishr, 1), (240, .iconst 1, 1), (241, .iand, 1), (242, .iconst 1, 1), (243, .if_icmp .ne 9, 3), (246, .aload_n 0, 1), (247, .iconst 3, 1)] := by unfold decs; decide +kernel
theorem dX12_readCar_207 : decode cX12_readCar 207 = .ok (.getfield 128, 3) := decs_at DX12_readCar_120 0 rfl
theorem dX12_readCar_210 : decode cX12_readCar 210 = .ok (.iconst 2, 1) := decs_at DX12_readCar_120 1 rfl
theorem dX12_readCar_211 : decode cX12_readCar 211 = .ok (.if_icmp .ne 72, 3) := decs_at DX12_readCar_120 2 rfl
theorem dX12_readCar_214 : decode cX12_readCar 214 = .ok (.aload_n 0, 1) := decs_at DX12_readCar_120 3 rfl
theorem dX12_readCar_215 : decode cX12_readCar 215 = .ok (.invokevirtual 191, 3) := decs_at DX12_readCar_120 4 rfl
theorem dX12_readCar_218 : decode cX12_readCar 218 = .ok (.istore 5, 2) := decs_at DX12_readCar_120 5 rfl
theorem dX12_readCar_220 : decode cX12_readCar 220 = .ok (.iload 5, 2) := decs_at DX12_readCar_120 6 rfl
theorem dX12_readCar_222 : decode cX12_readCar 222 = .ok (.iconst (-1), 1) := decs_at DX12_readCar_120 7 rfl
theorem dX12_readCar_223 : decode cX12_readCar 223 = .ok (.if_icmp .ne 9, 3) := decs_at DX12_readCar_120 8 rfl
theorem dX12_readCar_226 : decode cX12_readCar 226 = .ok (.aload_n 0, 1) := decs_at DX12_readCar_120 9 rfl
theorem dX12_readCar_227 : decode cX12_readCar 227 = .ok (.iconst 1, 1) := decs_at DX12_readCar_120 10 rfl
theorem dX12_readCar_228 : decode cX12_readCar 228 = .ok (.invokevirtual 159, 3) := decs_at DX12_readCar_120 11 rfl
theorem dX12_readCar_231 : decode cX12_readCar 231 = .ok (.ireturn, 1) := decs_at DX12_readCar_120 12 rfl
theorem dX12_readCar_232 : decode cX12_readCar 232 = .ok (.iload 4, 2) := decs_at DX12_readCar_120 13 rfl
theorem dX12_readCar_234 : decode cX12_readCar 234 = .ok (.iload 5, 2) := decs_at DX12_readCar_120 14 rfl
theorem dX12_readCar_236 : decode cX12_readCar 236 = .ok (.bipush 32, 2) := decs_at DX12_readCar_120 15 rfl
theorem dX12_readCar_238 : decode cX12_readCar 238 = .ok (.idiv, 1) := decs_at DX12_readCar_120 16 rfl
theorem dX12_readCar_239 : decode cX12_readCar 239 = .ok (.ishr, 1) := decs_at DX12_readCar_120 17 rfl
theorem dX12_readCar_240 : decode cX12_readCar 240 = .ok (.iconst 1, 1) := decs_at DX12_readCar_120 18 rfl
theorem dX12_readCar_241 : decode cX12_readCar 241 = .ok (.iand, 1) := decs_at DX12_readCar_120 19 rfl
theorem dX12_readCar_242 : decode cX12_readCar 242 = .ok (.iconst 1, 1) := decs_at DX12_readCar_120 20 rfl
theorem dX12_readCar_243 : decode cX12_readCar 243 = .ok (.if_icmp .ne 9, 3) := decs_at DX12_readCar_120 21 rfl
theorem dX12_readCar_246 : decode cX12_readCar 246 = .ok (.aload_n 0, 1) := decs_at DX12_readCar_120 22 rfl
theorem dX12_readCar_247 : decode cX12_readCar 247 = .ok (.iconst 3, 1) := decs_at DX12_readCar_120 23 rfl
theorem DX12_readCar_144 : decs cX12_readCar [(248, .invokevirtual 159, 3), (251, .ireturn, 1), (252, .iload 4, 2), (254, .iconst 1, 1), (255, .iload 5, 2), (257, .bipush 32, 2), (259, .idiv, 1), (260, .ishl, 1), (261, .ior, 1), (262, .istore 4, 2), (264, .aload_n 0, 1), (265, .invokevirtual 169, 3), (268, .aload_n 0, 1), (269, .iload 5, 2), (271, .iload_n 1, 1), (272, .invokevirtual 195, 3), (275, .ifCond .ne 5, 3), (278, .iconst 0, 1), (279, .ireturn, 1), (280, .goto (-74), 3), (283, .aload_n 0, 1), (284, .dup, 1), (285, .getfield 184, 3), (288, .iconst 1, 1)] := by unfold decs; decide +kernel
theorem dX12_readCar_248 : decode cX12_readCar 248 = .ok (.invokevirtual 159, 3) := decs_at DX12_readCar_144 0 rfl
theorem dX12_readCar_251 : decode cX12_readCar 251 = .ok (.ireturn, 1) := decs_at DX12_readCar_144 1 rfl
theorem dX12_readCar_252 : decode cX12_readCar 252 = .ok (.iload 4, 2) := decs_at DX12_readCar_144 2 rfl
theorem dX12_readCar_254 : decode cX12_readCar 254 = .ok (.iconst 1, 1) := decs_at DX12_readCar_144 3 rfl
theorem dX12_readCar_255 : decode cX12_readCar 255 = .ok (.iload 5, 2) := decs_at DX12_readCar_144 4 rfl
theorem dX12_readCar_257 : decode cX12_readCar 257 = .ok (.bipush 32, 2) := decs_at DX12_readCar_144 5 rfl
theorem dX12_readCar_259 : decode cX12_readCar 259 = .ok (.idiv, 1) := decs_at DX12_readCar_144 6 rfl
theorem dX12_readCar_260 : decode cX12_readCar 260 = .ok (.ishl, 1) := decs_at DX12_readCar_144 7 rfl
theorem dX12_readCar_261 : decode cX12_readCar 261 = .ok (.ior, 1) := decs_at DX12_readCar_144 8 rfl
theorem dX12_readCar_262 : decode cX12_readCar 262 = .ok (.istore 4, 2) := decs_at DX12_readCar_144 9 rfl
theorem dX12_readCar_264 : decode cX12_readCar 264 = .ok (.aload_n 0, 1) := decs_at DX12_readCar_144 10 rfl
theorem dX12_readCar_265 : decode cX12_readCar 265 = .ok (.invokevirtual 169, 3) := decs_at DX12_readCar_144 11 rfl
theorem dX12_readCar_268 : decode cX12_readCar 268 = .ok (.aload_n 0, 1) := decs_at DX12_readCar_144 12 rfl
theorem dX12_readCar_269 : decode cX12_readCar 269 = .ok (.iload 5, 2) := decs_at DX12_readCar_144 13 rfl
theorem dX12_readCar_271 : decode cX12_readCar 271 = .ok (.iload_n 1, 1) := decs_at DX12_readCar_144 14 rfl
theorem dX12_readCar_272 : decode cX12_readCar 272 = .ok (.invokevirtual 195, 3) := decs_at DX12_readCar_144 15 rfl
theorem dX12_readCar_275 : decode cX12_readCar 275 = .ok (.ifCond .ne 5, 3) := decs_at DX12_readCar_144 16 rfl
theorem dX12_readCar_278 : decode cX12_readCar 278 = .ok (.iconst 0, 1) := decs_at DX12_readCar_144 17 rfl
theorem dX12_readCar_279 : decode cX12_readCar 279 = .ok (.ireturn, 1) := decs_at DX12_readCar_144 18 rfl
theorem dX12_readCar_280 : decode cX12_readCar 280 = .ok (.goto (-74), 3) := decs_at DX12_readCar_144 19 rfl
theorem dX12_readCar_283 : decode cX12_readCar 283 = .ok (.aload_n 0, 1) := decs_at DX12_readCar_144 20 rfl
theorem dX12_readCar_284 : decode cX12_readCar 284 = .ok (.dup, 1) := decs_at DX12_readCar_144 21 rfl
theorem dX12_readCar_285 : decode cX12_readCar 285 = .ok (.getfield 184, 3) := decs_at DX12_readCar_144 22 rfl
theorem dX12_readCar_288 : decode cX12_readCar 288 = .ok (.iconst 1, 1) := decs_at DX12_readCar_144 23 rfl
theorem DX12_readCar_168 : decs cX12_readCar [(289, .iadd, 1), (290, .putfield 184, 3), (293, .iconst 1, 1), (294, .ireturn, 1)] := by unfold decs; decide +kernel
theorem dX12_readCar_289 : decode cX12_readCar 289 = .ok (.iadd, 1) := decs_at DX12_readCar_168 0 rfl
theorem dX12_readCar_290 : decode cX12_readCar 290 = .ok (.putfield 184, 3) := decs_at DX12_readCar_168 1 rfl
theorem dX12_readCar_293 : decode cX12_readCar 293 = .ok (.iconst 1, 1) := decs_at DX12_readCar_168 2 rfl
theorem dX12_readCar_294 : decode cX12_readCar 294 = .ok (.ireturn, 1) := decs_at DX12_readCar_168 3 rfl
theorem DX12_readOption_0 : decs cX12_readOption [(0, .iload_n 1, 1), (1, .bipush 64, 2), (3, .if_icmp .ne 15, 3), (6, .aload_n 0, 1), (7, .getfield 13, 3), (10, .bipush 64, 2), (12, .iload_n 2, 1), (13, .iadd, 1), (14, .iconst 1, 1), (15, .iastore, 1), (16, .iconst 1, 1), (17, .ireturn, 1), (18, .iload_n 1, 1), (19, .sipush 192, 3), (22, .if_icmp .ne 71, 3), (25, .aload_n 0, 1), (26, .bipush 111, 2), (28, .bipush 110, 2), (30, .iconst 0, 1), (31, .iconst 0, 1), (32, .iconst 0, 1), (33, .invokestatic 176, 3), (36, .invokevirtual 180, 3), (39, .istore_n 3, 1)] := by unfold decs; decide +kernel
theorem dX12_readOption_0 : decode cX12_readOption 0 = .ok (.iload_n 1, 1) := decs_at DX12_readOption_0 0 rfl
theorem dX12_readOption_1 : decode cX12_readOption 1 = .ok (.bipush 64, 2) := decs_at DX12_readOption_0 1 rfl
theorem dX12_readOption_3 : decode cX12_readOption 3 = .ok (.if_icmp .ne 15, 3) := decs_at DX12_readOption_0 2 rfl
theorem dX12_readOption_6 : decode cX12_readOption 6 = .ok (.aload_n 0, 1) := decs_at DX12_readOption_0 3 rfl
theorem dX12_readOption_7 : decode cX12_readOption 7 = .ok (.getfield 13, 3) := decs_at DX12_readOption_0 4 rfl
theorem dX12_readOption_10 : decode cX12_readOption 10 = .ok (.bipush 64, 2) := decs_at DX12_readOption_0 5 rfl
theorem dX12_readOption_12 : decode cX12_readOption 12 = .ok (.iload_n 2, 1) := decs_at DX12_readOption_0 6 rfl
theorem dX12_readOption_13 : decode cX12_readOption 13 = .ok (.iadd, 1) := decs_at DX12_readOption_0 7 rfl
theorem dX12_readOption_14 : decode cX12_readOption 14 = .ok (.iconst 1, 1) := decs_at DX12_readOption_0 8 rfl
theorem dX12_readOption_15 : decode cX12_readOption 15 = .ok (.iastore, 1) := decs_at DX12_readOption_0 9 rfl
theorem dX12_readOption_16 : decode cX12_readOption 16 = .ok (.iconst 1, 1) := decs_at DX12_readOption_0 10 rfl
theorem dX12_readOption_17 : decode cX12_readOption 17 = .ok (.ireturn, 1) := decs_at DX12_readOption_0 11 rfl
theorem dX12_readOption_18 : decode cX12_readOption 18 = .ok (.iload_n 1, 1) := decs_at DX12_readOption_0 12 rfl
theorem dX12_readOption_19 : decode cX12_readOption 19 = .ok (.sipush 192, 3) := decs_at DX12_readOption_0 13 rfl
theorem dX12_readOption_22 : decode cX12_readOption 22 = .ok (.if_icmp .ne 71, 3) := decs_at DX12_readOption_0 14 rfl
theorem dX12_readOption_25 : decode cX12_readOption 25 = .ok (.aload_n 0, 1) := decs_at DX12_readOption_0 15 rfl
theorem dX12_readOption_26 : decode cX12_readOption 26 = .ok (.bipush 111, 2) := decs_at DX12_readOption_0 16 rfl
theorem dX12_readOption_28 : decode cX12_readOption 28 = .ok (.bipush 110, 2) := decs_at DX12_readOption_0 17 rfl
theorem dX12_readOption_30 : decode cX12_readOption 30 = .ok (.iconst 0, 1) := decs_at DX12_readOption_0 18 rfl
theorem dX12_readOption_31 : decode cX12_readOption 31 = .ok (.iconst 0, 1) := decs_at DX12_readOption_0 19 rfl
theorem dX12_readOption_32 : decode cX12_readOption 32 = .ok (.iconst 0, 1) := decs_at DX12_readOption_0 20 rfl
theorem dX12_readOption_33 : decode cX12_readOption 33 = .ok (.invokestatic 176, 3) := decs_at DX12_readOption_0 21 rfl
theorem dX12_readOption_36 : decode cX12_readOption 36 = .ok (.invokevirtual 180, 3) := decs_at DX12_readOption_0 22 rfl
theorem dX12_readOption_39 : decode cX12_readOption 39 = .ok (.istore_n 3, 1) := decs_at DX12_readOption_0 23 rfl
theorem DX12_readOption_24 : decs cX12_readOption [(40, .iload_n 3, 1), (41, .ifCond .ne 27, 3), (44, .aload_n 0, 1), (45, .bipush 111, 2), (47, .bipush 102, 2), (49, .bipush 102, 2), (51, .iconst 0, 1), (52, .iconst 0, 1), (53, .invokestatic 176, 3), (56, .invokevirtual 180, 3), (59, .ifCond .ne 9, 3), (62, .aload_n 0, 1), (63, .iconst 1, 1), (64, .invokevirtual 159, 3), (67, .ireturn, 1), (68, .aload_n 0, 1), (69, .getfield 13, 3), (72, .sipush 192, 3), (75, .iload_n 2, 1), (76, .iadd, 1), (77, .iload_n 3, 1), (78, .ifCond .eq 7, 3), (81, .iconst 1, 1), (82, .goto 4, 3)] := by unfold decs; decide +kernel
theorem dX12_readOption_40 : decode cX12_readOption 40 = .ok (.iload_n 3, 1) := decs_at DX12_readOption_24 0 rfl
theorem dX12_readOption_41 : decode cX12_readOption 41 = .ok (.ifCond .ne 27, 3) := decs_at DX12_readOption_24 1 rfl
theorem dX12_readOption_44 : decode cX12_readOption 44 = .ok (.aload_n 0, 1) := decs_at DX12_readOption_24 2 rfl
theorem dX12_readOption_45 : decode cX12_readOption 45 = .ok (.bipush 111, 2) := decs_at DX12_readOption_24 3 rfl
theorem dX12_readOption_47 : decode cX12_readOption 47 = .ok (.bipush 102, 2) := decs_at DX12_readOption_24 4 rfl
theorem dX12_readOption_49 : decode cX12_readOption 49 = .ok (.bipush 102, 2) := decs_at DX12_readOption_24 5 rfl
theorem dX12_readOption_51 : decode cX12_readOption 51 = .ok (.iconst 0, 1) := decs_at DX12_readOption_24 6 rfl
theorem dX12_readOption_52 : decode cX12_readOption 52 = .ok (.iconst 0, 1) := decs_at DX12_readOption_24 7 rfl
theorem dX12_readOption_53 : decode cX12_readOption 53 = .ok (.invokestatic 176, 3) := decs_at DX12_readOption_24 8 rfl
theorem dX12_readOption_56 : decode cX12_readOption 56 = .ok (.invokevirtual 180, 3) := decs_at DX12_readOption_24 9 rfl
theorem dX12_readOption_59 : decode cX12_readOption 59 = .ok (.ifCond .ne 9, 3) := decs_at DX12_readOption_24 10 rfl
theorem dX12_readOption_62 : decode cX12_readOption 62 = .ok (.aload_n 0, 1) := decs_at DX12_readOption_24 11 rfl
theorem dX12_readOption_63 : decode cX12_readOption 63 = .ok (.iconst 1, 1) := decs_at DX12_readOption_24 12 rfl
theorem dX12_readOption_64 : decode cX12_readOption 64 = .ok (.invokevirtual 159, 3) := decs_at DX12_readOption_24 13 rfl
theorem dX12_readOption_67 : decode cX12_readOption 67 = .ok (.ireturn, 1) := decs_at DX12_readOption_24 14 rfl
theorem dX12_readOption_68 : decode cX12_readOption 68 = .ok (.aload_n 0, 1) := decs_at DX12_readOption_24 15 rfl
theorem dX12_readOption_69 : decode cX12_readOption 69 = .ok (.getfield 13, 3) := decs_at DX12_readOption_24 16 rfl
theorem dX12_readOption_72 : decode cX12_readOption 72 = .ok (.sipush 192, 3) := decs_at DX12_readOption_24 17 rfl
theorem dX12_readOption_75 : decode cX12_readOption 75 = .ok (.iload_n 2, 1) := decs_at DX12_readOption_24 18 rfl
theorem dX12_readOption_76 : decode cX12_readOption 76 = .ok (.iadd, 1) := decs_at DX12_readOption_24 19 rfl
theorem dX12_readOption_77 : decode cX12_readOption 77 = .ok (.iload_n 3, 1) := decs_at DX12_readOption_24 20 rfl
theorem dX12_readOption_78 : decode cX12_readOption 78 = .ok (.ifCond .eq 7, 3) := decs_at DX12_readOption_24 21 rfl
theorem dX12_readOption_81 : decode cX12_readOption 81 = .ok (.iconst 1, 1) := decs_at DX12_readOption_24 22 rfl
theorem dX12_readOption_82 : decode cX12_readOption 82 = .ok (.goto 4, 3) := decs_at DX12_readOption_24 23 rfl
theorem DX12_readOption_48 : decs cX12_readOption [(85, .iconst 2, 1), (86, .iastore, 1), (87, .aload_n 0, 1), (88, .invokevirtual 169, 3), (91, .iconst 1, 1), (92, .ireturn, 1), (93, .aload_n 0, 1), (94, .iconst 0, 1), (95, .iload_n 1, 1), (96, .bipush 96, 2), (98, .if_icmp .ne 7, 3), (101, .iconst 3, 1), (102, .goto 17, 3), (105, .iload_n 1, 1), (106, .sipush 128, 3), (109, .if_icmp .ne 8, 3), (112, .bipush 99, 2), (114, .goto 5, 3), (117, .bipush 100, 2), (119, .invokevirtual 187, 3), (122, .ifCond .ne 5, 3), (125, .iconst 0, 1), (126, .ireturn, 1), (127, .aload_n 0, 1)] := by unfold decs; decide +kernel
theorem dX12_readOption_85 : decode cX12_readOption 85 = .ok (.iconst 2, 1) := decs_at DX12_readOption_48 0 rfl
theorem dX12_readOption_86 : decode cX12_readOption 86 = .ok (.iastore, 1) := decs_at DX12_readOption_48 1 rfl
theorem dX12_readOption_87 : decode cX12_readOption 87 = .ok (.aload_n 0, 1) := decs_at DX12_readOption_48 2 rfl
theorem dX12_readOption_88 : decode cX12_readOption 88 = .ok (.invokevirtual 169, 3) := decs_at DX12_readOption_48 3 rfl
theorem dX12_readOption_91 : decode cX12_readOption 91 = .ok (.iconst 1, 1) := decs_at DX12_readOption_48 4 rfl
theorem dX12_readOption_92 : decode cX12_readOption 92 = .ok (.ireturn, 1) := decs_at DX12_readOption_48 5 rfl
theorem dX12_readOption_93 : decode cX12_readOption 93 = .ok (.aload_n 0, 1) := decs_at DX12_readOption_48 6 rfl
theorem dX12_readOption_94 : decode cX12_readOption 94 = .ok (.iconst 0, 1) := decs_at DX12_readOption_48 7 rfl
theorem dX12_readOption_95 : decode cX12_readOption 95 = .ok (.iload_n 1, 1) := decs_at DX12_readOption_48 8 rfl
theorem dX12_readOption_96 : decode cX12_readOption 96 = .ok (.bipush 96, 2) := decs_at DX12_readOption_48 9 rfl
theorem dX12_readOption_98 : decode cX12_readOption 98 = .ok (.if_icmp .ne 7, 3) := decs_at DX12_readOption_48 10 rfl
theorem dX12_readOption_101 : decode cX12_readOption 101 = .ok (.iconst 3, 1) := decs_at DX12_readOption_48 11 rfl
theorem dX12_readOption_102 : decode cX12_readOption 102 = .ok (.goto 17, 3) := decs_at DX12_readOption_48 12 rfl
theorem dX12_readOption_105 : decode cX12_readOption 105 = .ok (.iload_n 1, 1) := decs_at DX12_readOption_48 13 rfl
theorem dX12_readOption_106 : decode cX12_readOption 106 = .ok (.sipush 128, 3) := decs_at DX12_readOption_48 14 rfl
theorem dX12_readOption_109 : decode cX12_readOption 109 = .ok (.if_icmp .ne 8, 3) := decs_at DX12_readOption_48 15 rfl
theorem dX12_readOption_112 : decode cX12_readOption 112 = .ok (.bipush 99, 2) := decs_at DX12_readOption_48 16 rfl
theorem dX12_readOption_114 : decode cX12_readOption 114 = .ok (.goto 5, 3) := decs_at DX12_readOption_48 17 rfl
theorem dX12_readOption_117 : decode cX12_readOption 117 = .ok (.bipush 100, 2) := decs_at DX12_readOption_48 18 rfl
theorem dX12_readOption_119 : decode cX12_readOption 119 = .ok (.invokevirtual 187, 3) := decs_at DX12_readOption_48 19 rfl
theorem dX12_readOption_122 : decode cX12_readOption 122 = .ok (.ifCond .ne 5, 3) := decs_at DX12_readOption_48 20 rfl
theorem dX12_readOption_125 : decode cX12_readOption 125 = .ok (.iconst 0, 1) := decs_at DX12_readOption_48 21 rfl
theorem dX12_readOption_126 : decode cX12_readOption 126 = .ok (.ireturn, 1) := decs_at DX12_readOption_48 22 rfl
theorem dX12_readOption_127 : decode cX12_readOption 127 = .ok (.aload_n 0, 1) := decs_at DX12_readOption_48 23 rfl
theorem DX12_readOption_72 : decs cX12_readOption [(128, .getfield 13, 3), (131, .iload_n 1, 1), (132, .iload_n 2, 1), (133, .iadd, 1), (134, .aload_n 0, 1), (135, .getfield 166, 3), (138, .iastore, 1), (139, .iconst 1, 1), (140, .ireturn, 1)] := by unfold decs; decide +kernel
theorem dX12_readOption_128 : decode cX12_readOption 128 = .ok (.getfield 13, 3) := decs_at DX12_readOption_72 0 rfl
theorem dX12_readOption_131 : decode cX12_readOption 131 = .ok (.iload_n 1, 1) := decs_at DX12_readOption_72 1 rfl
theorem dX12_readOption_132 : decode cX12_readOption 132 = .ok (.iload_n 2, 1) := decs_at DX12_readOption_72 2 rfl
theorem dX12_readOption_133 : decode cX12_readOption 133 = .ok (.iadd, 1) := decs_at DX12_readOption_72 3 rfl
theorem dX12_readOption_134 : decode cX12_readOption 134 = .ok (.aload_n 0, 1) := decs_at DX12_readOption_72 4 rfl
theorem dX12_readOption_135 : decode cX12_readOption 135 = .ok (.getfield 166, 3) := decs_at DX12_readOption_72 5 rfl
theorem dX12_readOption_138 : decode cX12_readOption 138 = .ok (.iastore, 1) := decs_at DX12_readOption_72 6 rfl
theorem dX12_readOption_139 : decode cX12_readOption 139 = .ok (.iconst 1, 1) := decs_at DX12_readOption_72 7 rfl
theorem dX12_readOption_140 : decode cX12_readOption 140 = .ok (.ireturn, 1) := decs_at DX12_readOption_72 8 rfl
theorem DX12_train_0 : decs cX12_train [(0, .aload_n 0, 1), (1, .iconst 0, 1), (2, .putfield 106, 3), (5, .aload_n 0, 1), (6, .invokevirtual 198, 3), (9, .aload_n 0, 1), (10, .aload_n 0, 1), (11, .invokevirtual 201, 3), (14, .putfield 116, 3), (17, .aload_n 0, 1), (18, .sipush 700, 3), (21, .putfield 125, 3), (24, .aload_n 0, 1), (25, .iconst 0, 1), (26, .putfield 153, 3), (29, .aload_n 0, 1), (30, .iconst 0, 1), (31, .putfield 184, 3), (34, .aload_n 0, 1), (35, .iconst (-1), 1), (36, .putfield 204, 3), (39, .aload_n 0, 1), (40, .iconst (-1), 1), (41, .putfield 207, 3)] := by unfold decs; decide +kernel
theorem dX12_train_0 : decode cX12_train 0 = .ok (.aload_n 0, 1) := decs_at DX12_train_0 0 rfl
theorem dX12_train_1 : decode cX12_train 1 = .ok (.iconst 0, 1) := decs_at DX12_train_0 1 rfl
theorem dX12_train_2 : decode cX12_train 2 = .ok (.putfield 106, 3) := decs_at DX12_train_0 2 rfl
theorem dX12_train_5 : decode cX12_train 5 = .ok (.aload_n 0, 1) := decs_at DX12_train_0 3 rfl
theorem dX12_train_6 : decode cX12_train 6 = .ok (.invokevirtual 198, 3) := decs_at DX12_train_0 4 rfl
theorem dX12_train_9 : decode cX12_train 9 = .ok (.aload_n 0, 1) := decs_at DX12_train_0 5 rfl
theorem dX12_train_10 : decode cX12_train 10 = .ok (.aload_n 0, 1) := decs_at DX12_train_0 6 rfl
theorem dX12_train_11 : decode cX12_train 11 = .ok (.invokevirtual 201, 3) := decs_at DX12_train_0 7 rfl
theorem dX12_train_14 : decode cX12_train 14 = .ok (.putfield 116, 3) := decs_at DX12_train_0 8 rfl
theorem dX12_train_17 : decode cX12_train 17 = .ok (.aload_n 0, 1) := decs_at DX12_train_0 9 rfl
theorem dX12_train_18 : decode cX12_train 18 = .ok (.sipush 700, 3) := decs_at DX12_train_0 10 rfl
theorem dX12_train_21 : decode cX12_train 21 = .ok (.putfield 125, 3) := decs_at DX12_train_0 11 rfl
theorem dX12_train_24 : decode cX12_train 24 = .ok (.aload_n 0, 1) := decs_at DX12_train_0 12 rfl
theorem dX12_train_25 : decode cX12_train 25 = .ok (.iconst 0, 1) := decs_at DX12_train_0 13 rfl
theorem dX12_train_26 : decode cX12_train 26 = .ok (.putfield 153, 3) := decs_at DX12_train_0 14 rfl
theorem dX12_train_29 : decode cX12_train 29 = .ok (.aload_n 0, 1) := decs_at DX12_train_0 15 rfl
theorem dX12_train_30 : decode cX12_train 30 = .ok (.iconst 0, 1) := decs_at DX12_train_0 16 rfl
theorem dX12_train_31 : decode cX12_train 31 = .ok (.putfield 184, 3) := decs_at DX12_train_0 17 rfl
theorem dX12_train_34 : decode cX12_train 34 = .ok (.aload_n 0, 1) := decs_at DX12_train_0 18 rfl
theorem dX12_train_35 : decode cX12_train 35 = .ok (.iconst (-1), 1) := decs_at DX12_train_0 19 rfl
theorem dX12_train_36 : decode cX12_train 36 = .ok (.putfield 204, 3) := decs_at DX12_train_0 20 rfl
theorem dX12_train_39 : decode cX12_train 39 = .ok (.aload_n 0, 1) := decs_at DX12_train_0 21 rfl
theorem dX12_train_40 : decode cX12_train 40 = .ok (.iconst (-1), 1) := decs_at DX12_train_0 22 rfl
theorem dX12_train_41 : decode cX12_train 41 = .ok (.putfield 207, 3) := decs_at DX12_train_0 23 rfl
theorem DX12_train_24 : decs cX12_train [(44, .aload_n 0, 1), (45, .iconst 0, 1), (46, .putfield 119, 3), (49, .iconst 0, 1), (50, .istore_n 1, 1), (51, .aload_n 0, 1), (52, .invokevirtual 169, 3), (55, .aload_n 0, 1), (56, .getfield 128, 3), (59, .ifCond .eq 23, 3), (62, .aload_n 0, 1), (63, .invokevirtual 210, 3), (66, .ifCond .ne 10, 3), (69, .iconst (-1), 1), (70, .aload_n 0, 1), (71, .getfield 156, 3), (74, .isub, 1), (75, .ireturn, 1), (76, .iinc 1 1, 3), (79, .goto (-24), 3), (82, .aload_n 0, 1), (83, .getfield 184, 3), (86, .ifCond .ne 16, 3), (89, .aload_n 0, 1)] := by unfold decs; decide +kernel
theorem dX12_train_44 : decode cX12_train 44 = .ok (.aload_n 0, 1) := decs_at DX12_train_24 0 rfl
theorem dX12_train_45 : decode cX12_train 45 = .ok (.iconst 0, 1) := decs_at DX12_train_24 1 rfl
theorem dX12_train_46 : decode cX12_train 46 = .ok (.putfield 119, 3) := decs_at DX12_train_24 2 rfl
theorem dX12_train_49 : decode cX12_train 49 = .ok (.iconst 0, 1) := decs_at DX12_train_24 3 rfl
theorem dX12_train_50 : decode cX12_train 50 = .ok (.istore_n 1, 1) := decs_at DX12_train_24 4 rfl
theorem dX12_train_51 : decode cX12_train 51 = .ok (.aload_n 0, 1) := decs_at DX12_train_24 5 rfl
theorem dX12_train_52 : decode cX12_train 52 = .ok (.invokevirtual 169, 3) := decs_at DX12_train_24 6 rfl
theorem dX12_train_55 : decode cX12_train 55 = .ok (.aload_n 0, 1) := decs_at DX12_train_24 7 rfl
theorem dX12_train_56 : decode cX12_train 56 = .ok (.getfield 128, 3) := decs_at DX12_train_24 8 rfl
theorem dX12_train_59 : decode cX12_train 59 = .ok (.ifCond .eq 23, 3) := decs_at DX12_train_24 9 rfl
theorem dX12_train_62 : decode cX12_train 62 = .ok (.aload_n 0, 1) := decs_at DX12_train_24 10 rfl
theorem dX12_train_63 : decode cX12_train 63 = .ok (.invokevirtual 210, 3) := decs_at DX12_train_24 11 rfl
theorem dX12_train_66 : decode cX12_train 66 = .ok (.ifCond .ne 10, 3) := decs_at DX12_train_24 12 rfl
theorem dX12_train_69 : decode cX12_train 69 = .ok (.iconst (-1), 1) := decs_at DX12_train_24 13 rfl
theorem dX12_train_70 : decode cX12_train 70 = .ok (.aload_n 0, 1) := decs_at DX12_train_24 14 rfl
theorem dX12_train_71 : decode cX12_train 71 = .ok (.getfield 156, 3) := decs_at DX12_train_24 15 rfl
theorem dX12_train_74 : decode cX12_train 74 = .ok (.isub, 1) := decs_at DX12_train_24 16 rfl
theorem dX12_train_75 : decode cX12_train 75 = .ok (.ireturn, 1) := decs_at DX12_train_24 17 rfl
theorem dX12_train_76 : decode cX12_train 76 = .ok (.iinc 1 1, 3) := decs_at DX12_train_24 18 rfl
theorem dX12_train_79 : decode cX12_train 79 = .ok (.goto (-24), 3) := decs_at DX12_train_24 19 rfl
theorem dX12_train_82 : decode cX12_train 82 = .ok (.aload_n 0, 1) := decs_at DX12_train_24 20 rfl
theorem dX12_train_83 : decode cX12_train 83 = .ok (.getfield 184, 3) := decs_at DX12_train_24 21 rfl
theorem dX12_train_86 : decode cX12_train 86 = .ok (.ifCond .ne 16, 3) := decs_at DX12_train_24 22 rfl
theorem dX12_train_89 : decode cX12_train 89 = .ok (.aload_n 0, 1) := decs_at DX12_train_24 23 rfl
theorem DX12_train_48 : decs cX12_train [(90, .iconst 1, 1), (91, .invokevirtual 159, 3), (94, .pop, 1), (95, .iconst (-1), 1), (96, .aload_n 0, 1), (97, .getfield 156, 3), (100, .isub, 1), (101, .ireturn, 1), (102, .aload_n 0, 1), (103, .aload_n 0, 1), (104, .getfield 184, 3), (107, .putfield 16, 3), (110, .aload_n 0, 1), (111, .aload_n 0, 1), (112, .getfield 204, 3), (115, .iconst (-1), 1), (116, .if_icmp .ne 9, 3), (119, .sipush 700, 3), (122, .goto 7, 3), (125, .aload_n 0, 1), (126, .getfield 204, 3), (129, .putfield 20, 3), (132, .aload_n 0, 1), (133, .aload_n 0, 1)] := by unfold decs; decide +kernel
theorem dX12_train_90 : decode cX12_train 90 = .ok (.iconst 1, 1) := decs_at DX12_train_48 0 rfl
theorem dX12_train_91 : decode cX12_train 91 = .ok (.invokevirtual 159, 3) := decs_at DX12_train_48 1 rfl
theorem dX12_train_94 : decode cX12_train 94 = .ok (.pop, 1) := decs_at DX12_train_48 2 rfl
theorem dX12_train_95 : decode cX12_train 95 = .ok (.iconst (-1), 1) := decs_at DX12_train_48 3 rfl
theorem dX12_train_96 : decode cX12_train 96 = .ok (.aload_n 0, 1) := decs_at DX12_train_48 4 rfl
theorem dX12_train_97 : decode cX12_train 97 = .ok (.getfield 156, 3) := decs_at DX12_train_48 5 rfl
theorem dX12_train_100 : decode cX12_train 100 = .ok (.isub, 1) := decs_at DX12_train_48 6 rfl
theorem dX12_train_101 : decode cX12_train 101 = .ok (.ireturn, 1) := decs_at DX12_train_48 7 rfl
theorem dX12_train_102 : decode cX12_train 102 = .ok (.aload_n 0, 1) := decs_at DX12_train_48 8 rfl
theorem dX12_train_103 : decode cX12_train 103 = .ok (.aload_n 0, 1) := decs_at DX12_train_48 9 rfl
theorem dX12_train_104 : decode cX12_train 104 = .ok (.getfield 184, 3) := decs_at DX12_train_48 10 rfl
theorem dX12_train_107 : decode cX12_train 107 = .ok (.putfield 16, 3) := decs_at DX12_train_48 11 rfl
theorem dX12_train_110 : decode cX12_train 110 = .ok (.aload_n 0, 1) := decs_at DX12_train_48 12 rfl
theorem dX12_train_111 : decode cX12_train 111 = .ok (.aload_n 0, 1) := decs_at DX12_train_48 13 rfl
theorem dX12_train_112 : decode cX12_train 112 = .ok (.getfield 204, 3) := decs_at DX12_train_48 14 rfl
theorem dX12_train_115 : decode cX12_train 115 = .ok (.iconst (-1), 1) := decs_at DX12_train_48 15 rfl
theorem dX12_train_116 : decode cX12_train 116 = .ok (.if_icmp .ne 9, 3) := decs_at DX12_train_48 16 rfl
theorem dX12_train_119 : decode cX12_train 119 = .ok (.sipush 700, 3) := decs_at DX12_train_48 17 rfl
theorem dX12_train_122 : decode cX12_train 122 = .ok (.goto 7, 3) := decs_at DX12_train_48 18 rfl
theorem dX12_train_125 : decode cX12_train 125 = .ok (.aload_n 0, 1) := decs_at DX12_train_48 19 rfl
theorem dX12_train_126 : decode cX12_train 126 = .ok (.getfield 204, 3) := decs_at DX12_train_48 20 rfl
theorem dX12_train_129 : decode cX12_train 129 = .ok (.putfield 20, 3) := decs_at DX12_train_48 21 rfl
theorem dX12_train_132 : decode cX12_train 132 = .ok (.aload_n 0, 1) := decs_at DX12_train_48 22 rfl
theorem dX12_train_133 : decode cX12_train 133 = .ok (.aload_n 0, 1) := decs_at DX12_train_48 23 rfl
theorem DX12_train_72 : decs cX12_train [(134, .getfield 207, 3), (137, .iconst (-1), 1), (138, .if_icmp .ne 8, 3), (141, .bipush 40, 2), (143, .goto 7, 3), (146, .aload_n 0, 1), (147, .getfield 207, 3), (150, .putfield 23, 3), (153, .iconst 0, 1), (154, .istore_n 2, 1), (155, .iload_n 2, 1), (156, .sipush 224, 3), (159, .if_icmp .ge 42, 3), (162, .iconst 0, 1), (163, .istore_n 3, 1), (164, .iload_n 3, 1), (165, .bipush 16, 2), (167, .if_icmp .ge 28, 3), (170, .aload_n 0, 1), (171, .getfield 13, 3), (174, .iload_n 2, 1), (175, .iload_n 3, 1), (176, .iadd, 1), (177, .aload_n 0, 1)] := by unfold decs; decide +kernel
theorem dX12_train_134 : decode cX12_train 134 = .ok (.getfield 207, 3) := decs_at DX12_train_72 0 rfl
theorem dX12_train_137 : decode cX12_train 137 = .ok (.iconst (-1), 1) := decs_at DX12_train_72 1 rfl
theorem dX12_train_138 : decode cX12_train 138 = .ok (.if_icmp .ne 8, 3) := decs_at DX12_train_72 2 rfl
theorem dX12_train_141 : decode cX12_train 141 = .ok (.bipush 40, 2) := decs_at DX12_train_72 3 rfl
theorem dX12_train_143 : decode cX12_train 143 = .ok (.goto 7, 3) := decs_at DX12_train_72 4 rfl
theorem dX12_train_146 : decode cX12_train 146 = .ok (.aload_n 0, 1) := decs_at DX12_train_72 5 rfl
theorem dX12_train_147 : decode cX12_train 147 = .ok (.getfield 207, 3) := decs_at DX12_train_72 6 rfl
theorem dX12_train_150 : decode cX12_train 150 = .ok (.putfield 23, 3) := decs_at DX12_train_72 7 rfl
theorem dX12_train_153 : decode cX12_train 153 = .ok (.iconst 0, 1) := decs_at DX12_train_72 8 rfl
theorem dX12_train_154 : decode cX12_train 154 = .ok (.istore_n 2, 1) := decs_at DX12_train_72 9 rfl
theorem dX12_train_155 : decode cX12_train 155 = .ok (.iload_n 2, 1) := decs_at DX12_train_72 10 rfl
theorem dX12_train_156 : decode cX12_train 156 = .ok (.sipush 224, 3) := decs_at DX12_train_72 11 rfl
theorem dX12_train_159 : decode cX12_train 159 = .ok (.if_icmp .ge 42, 3) := decs_at DX12_train_72 12 rfl
theorem dX12_train_162 : decode cX12_train 162 = .ok (.iconst 0, 1) := decs_at DX12_train_72 13 rfl
theorem dX12_train_163 : decode cX12_train 163 = .ok (.istore_n 3, 1) := decs_at DX12_train_72 14 rfl
theorem dX12_train_164 : decode cX12_train 164 = .ok (.iload_n 3, 1) := decs_at DX12_train_72 15 rfl
theorem dX12_train_165 : decode cX12_train 165 = .ok (.bipush 16, 2) := decs_at DX12_train_72 16 rfl
theorem dX12_train_167 : decode cX12_train 167 = .ok (.if_icmp .ge 28, 3) := decs_at DX12_train_72 17 rfl
theorem dX12_train_170 : decode cX12_train 170 = .ok (.aload_n 0, 1) := decs_at DX12_train_72 18 rfl
theorem dX12_train_171 : decode cX12_train 171 = .ok (.getfield 13, 3) := decs_at DX12_train_72 19 rfl
theorem dX12_train_174 : decode cX12_train 174 = .ok (.iload_n 2, 1) := decs_at DX12_train_72 20 rfl
theorem dX12_train_175 : decode cX12_train 175 = .ok (.iload_n 3, 1) := decs_at DX12_train_72 21 rfl
theorem dX12_train_176 : decode cX12_train 176 = .ok (.iadd, 1) := decs_at DX12_train_72 22 rfl
theorem dX12_train_177 : decode cX12_train 177 = .ok (.aload_n 0, 1) := decs_at DX12_train_72 23 rfl
theorem DX12_train_96 : decs cX12_train [(178, .getfield 13, 3), (181, .iload_n 2, 1), (182, .bipush 16, 2), (184, .iadd, 1), (185, .iload_n 3, 1), (186, .iadd, 1), (187, .iaload, 1), (188, .iastore, 1), (189, .iinc 3 1, 3), (192, .goto (-28), 3), (195, .iinc 2 32, 3), (198, .goto (-43), 3), (201, .iload_n 1, 1), (202, .ireturn, 1)] := by unfold decs; decide +kernel
theorem dX12_train_178 : decode cX12_train 178 = .ok (.getfield 13, 3) := decs_at DX12_train_96 0 rfl
theorem dX12_train_181 : decode cX12_train 181 = .ok (.iload_n 2, 1) := decs_at DX12_train_96 1 rfl
theorem dX12_train_182 : decode cX12_train 182 = .ok (.bipush 16, 2) := decs_at DX12_train_96 2 rfl
theorem dX12_train_184 : decode cX12_train 184 = .ok (.iadd, 1) := decs_at DX12_train_96 3 rfl
theorem dX12_train_185 : decode cX12_train 185 = .ok (.iload_n 3, 1) := decs_at DX12_train_96 4 rfl
theorem dX12_train_186 : decode cX12_train 186 = .ok (.iadd, 1) := decs_at DX12_train_96 5 rfl
theorem dX12_train_187 : decode cX12_train 187 = .ok (.iaload, 1) := decs_at DX12_train_96 6 rfl
theorem dX12_train_188 : decode cX12_train 188 = .ok (.iastore, 1) := decs_at DX12_train_96 7 rfl
theorem dX12_train_189 : decode cX12_train 189 = .ok (.iinc 3 1, 3) := decs_at DX12_train_96 8 rfl
theorem dX12_train_192 : decode cX12_train 192 = .ok (.goto (-28), 3) := decs_at DX12_train_96 9 rfl
theorem dX12_train_195 : decode cX12_train 195 = .ok (.iinc 2 32, 3) := decs_at DX12_train_96 10 rfl
theorem dX12_train_198 : decode cX12_train 198 = .ok (.goto (-43), 3) := decs_at DX12_train_96 11 rfl
theorem dX12_train_201 : decode cX12_train 201 = .ok (.iload_n 1, 1) := decs_at DX12_train_96 12 rfl
theorem dX12_train_202 : decode cX12_train 202 = .ok (.ireturn, 1) := decs_at DX12_train_96 13 rfl
theorem DX12_readLine_0 : decs cX12_readLine [(0, .aload_n 0, 1), (1, .invokevirtual 214, 3), (4, .ifCond .eq 23, 3), (7, .aload_n 0, 1), (8, .invokevirtual 217, 3), (11, .ifCond .eq 14, 3), (14, .aload_n 0, 1), (15, .invokevirtual 220, 3), (18, .ifCond .eq 7, 3), (21, .iconst 1, 1), (22, .goto 4, 3), (25, .iconst 0, 1), (26, .ireturn, 1), (27, .aload_n 0, 1), (28, .invokevirtual 223, 3), (31, .istore_n 1, 1), (32, .iload_n 1, 1), (33, .ifCond .ne 16, 3), (36, .aload_n 0, 1), (37, .invokevirtual 226, 3), (40, .ifCond .ne 9, 3), (43, .aload_n 0, 1), (44, .iconst 1, 1), (45, .invokevirtual 159, 3)] := by unfold decs; decide +kernel
theorem dX12_readLine_0 : decode cX12_readLine 0 = .ok (.aload_n 0, 1) := decs_at DX12_readLine_0 0 rfl
theorem dX12_readLine_1 : decode cX12_readLine 1 = .ok (.invokevirtual 214, 3) := decs_at DX12_readLine_0 1 rfl
theorem dX12_readLine_4 : decode cX12_readLine 4 = .ok (.ifCond .eq 23, 3) := decs_at DX12_readLine_0 2 rfl
theorem dX12_readLine_7 : decode cX12_readLine 7 = .ok (.aload_n 0, 1) := decs_at DX12_readLine_0 3 rfl
theorem dX12_readLine_8 : decode cX12_readLine 8 = .ok (.invokevirtual 217, 3) := decs_at DX12_readLine_0 4 rfl
theorem dX12_readLine_11 : decode cX12_readLine 11 = .ok (.ifCond .eq 14, 3) := decs_at DX12_readLine_0 5 rfl
theorem dX12_readLine_14 : decode cX12_readLine 14 = .ok (.aload_n 0, 1) := decs_at DX12_readLine_0 6 rfl
theorem dX12_readLine_15 : decode cX12_readLine 15 = .ok (.invokevirtual 220, 3) := decs_at DX12_readLine_0 7 rfl
theorem dX12_readLine_18 : decode cX12_readLine 18 = .ok (.ifCond .eq 7, 3) := decs_at DX12_readLine_0 8 rfl
theorem dX12_readLine_21 : decode cX12_readLine 21 = .ok (.iconst 1, 1) := decs_at DX12_readLine_0 9 rfl
theorem dX12_readLine_22 : decode cX12_readLine 22 = .ok (.goto 4, 3) := decs_at DX12_readLine_0 10 rfl
theorem dX12_readLine_25 : decode cX12_readLine 25 = .ok (.iconst 0, 1) := decs_at DX12_readLine_0 11 rfl
theorem dX12_readLine_26 : decode cX12_readLine 26 = .ok (.ireturn, 1) := decs_at DX12_readLine_0 12 rfl
theorem dX12_readLine_27 : decode cX12_readLine 27 = .ok (.aload_n 0, 1) := decs_at DX12_readLine_0 13 rfl
theorem dX12_readLine_28 : decode cX12_readLine 28 = .ok (.invokevirtual 223, 3) := decs_at DX12_readLine_0 14 rfl
theorem dX12_readLine_31 : decode cX12_readLine 31 = .ok (.istore_n 1, 1) := decs_at DX12_readLine_0 15 rfl
theorem dX12_readLine_32 : decode cX12_readLine 32 = .ok (.iload_n 1, 1) := decs_at DX12_readLine_0 16 rfl
theorem dX12_readLine_33 : decode cX12_readLine 33 = .ok (.ifCond .ne 16, 3) := decs_at DX12_readLine_0 17 rfl
theorem dX12_readLine_36 : decode cX12_readLine 36 = .ok (.aload_n 0, 1) := decs_at DX12_readLine_0 18 rfl
theorem dX12_readLine_37 : decode cX12_readLine 37 = .ok (.invokevirtual 226, 3) := decs_at DX12_readLine_0 19 rfl
theorem dX12_readLine_40 : decode cX12_readLine 40 = .ok (.ifCond .ne 9, 3) := decs_at DX12_readLine_0 20 rfl
theorem dX12_readLine_43 : decode cX12_readLine 43 = .ok (.aload_n 0, 1) := decs_at DX12_readLine_0 21 rfl
theorem dX12_readLine_44 : decode cX12_readLine 44 = .ok (.iconst 1, 1) := decs_at DX12_readLine_0 22 rfl
theorem dX12_readLine_45 : decode cX12_readLine 45 = .ok (.invokevirtual 159, 3) := decs_at DX12_readLine_0 23 rfl
theorem DX12_readLine_24 : decs cX12_readLine [(48, .ireturn, 1), (49, .iload_n 1, 1), (50, .ifCond .eq 10, 3), (53, .aload_n 0, 1), (54, .getfield 204, 3), (57, .goto 7, 3), (60, .aload_n 0, 1), (61, .getfield 207, 3), (64, .iconst (-1), 1), (65, .if_icmp .eq 9, 3), (68, .aload_n 0, 1), (69, .iconst 3, 1), (70, .invokevirtual 159, 3), (73, .ireturn, 1), (74, .aload_n 0, 1), (75, .invokevirtual 169, 3), (78, .iload_n 1, 1), (79, .ifCond .eq 19, 3), (82, .aload_n 0, 1), (83, .sipush 300, 3), (86, .sipush 900, 3), (89, .invokevirtual 187, 3), (92, .ifCond .eq 16, 3), (95, .goto 15, 3)] := by unfold decs; decide +kernel
theorem dX12_readLine_48 : decode cX12_readLine 48 = .ok (.ireturn, 1) := decs_at DX12_readLine_24 0 rfl
theorem dX12_readLine_49 : decode cX12_readLine 49 = .ok (.iload_n 1, 1) := decs_at DX12_readLine_24 1 rfl
theorem dX12_readLine_50 : decode cX12_readLine 50 = .ok (.ifCond .eq 10, 3) := decs_at DX12_readLine_24 2 rfl
theorem dX12_readLine_53 : decode cX12_readLine 53 = .ok (.aload_n 0, 1) := decs_at DX12_readLine_24 3 rfl
theorem dX12_readLine_54 : decode cX12_readLine 54 = .ok (.getfield 204, 3) := decs_at DX12_readLine_24 4 rfl
theorem dX12_readLine_57 : decode cX12_readLine 57 = .ok (.goto 7, 3) := decs_at DX12_readLine_24 5 rfl
theorem dX12_readLine_60 : decode cX12_readLine 60 = .ok (.aload_n 0, 1) := decs_at DX12_readLine_24 6 rfl
theorem dX12_readLine_61 : decode cX12_readLine 61 = .ok (.getfield 207, 3) := decs_at DX12_readLine_24 7 rfl
theorem dX12_readLine_64 : decode cX12_readLine 64 = .ok (.iconst (-1), 1) := decs_at DX12_readLine_24 8 rfl
theorem dX12_readLine_65 : decode cX12_readLine 65 = .ok (.if_icmp .eq 9, 3) := decs_at DX12_readLine_24 9 rfl
theorem dX12_readLine_68 : decode cX12_readLine 68 = .ok (.aload_n 0, 1) := decs_at DX12_readLine_24 10 rfl
theorem dX12_readLine_69 : decode cX12_readLine 69 = .ok (.iconst 3, 1) := decs_at DX12_readLine_24 11 rfl
theorem dX12_readLine_70 : decode cX12_readLine 70 = .ok (.invokevirtual 159, 3) := decs_at DX12_readLine_24 12 rfl
theorem dX12_readLine_73 : decode cX12_readLine 73 = .ok (.ireturn, 1) := decs_at DX12_readLine_24 13 rfl
theorem dX12_readLine_74 : decode cX12_readLine 74 = .ok (.aload_n 0, 1) := decs_at DX12_readLine_24 14 rfl
theorem dX12_readLine_75 : decode cX12_readLine 75 = .ok (.invokevirtual 169, 3) := decs_at DX12_readLine_24 15 rfl
theorem dX12_readLine_78 : decode cX12_readLine 78 = .ok (.iload_n 1, 1) := decs_at DX12_readLine_24 16 rfl
theorem dX12_readLine_79 : decode cX12_readLine 79 = .ok (.ifCond .eq 19, 3) := decs_at DX12_readLine_24 17 rfl
theorem dX12_readLine_82 : decode cX12_readLine 82 = .ok (.aload_n 0, 1) := decs_at DX12_readLine_24 18 rfl
theorem dX12_readLine_83 : decode cX12_readLine 83 = .ok (.sipush 300, 3) := decs_at DX12_readLine_24 19 rfl
theorem dX12_readLine_86 : decode cX12_readLine 86 = .ok (.sipush 900, 3) := decs_at DX12_readLine_24 20 rfl
theorem dX12_readLine_89 : decode cX12_readLine 89 = .ok (.invokevirtual 187, 3) := decs_at DX12_readLine_24 21 rfl
theorem dX12_readLine_92 : decode cX12_readLine 92 = .ok (.ifCond .eq 16, 3) := decs_at DX12_readLine_24 22 rfl
theorem dX12_readLine_95 : decode cX12_readLine 95 = .ok (.goto 15, 3) := decs_at DX12_readLine_24 23 rfl
theorem DX12_readLine_48 : decs cX12_readLine [(98, .aload_n 0, 1), (99, .iconst 1, 1), (100, .bipush 99, 2), (102, .invokevirtual 187, 3), (105, .ifCond .ne 5, 3), (108, .iconst 0, 1), (109, .ireturn, 1), (110, .iload_n 1, 1), (111, .ifCond .eq 14, 3), (114, .aload_n 0, 1), (115, .aload_n 0, 1), (116, .getfield 166, 3), (119, .putfield 204, 3), (122, .goto 11, 3), (125, .aload_n 0, 1), (126, .aload_n 0, 1), (127, .getfield 166, 3), (130, .putfield 207, 3), (133, .aload_n 0, 1), (134, .invokevirtual 220, 3), (137, .ireturn, 1)] := by unfold decs; decide +kernel
theorem dX12_readLine_98 : decode cX12_readLine 98 = .ok (.aload_n 0, 1) := decs_at DX12_readLine_48 0 rfl
theorem dX12_readLine_99 : decode cX12_readLine 99 = .ok (.iconst 1, 1) := decs_at DX12_readLine_48 1 rfl
theorem dX12_readLine_100 : decode cX12_readLine 100 = .ok (.bipush 99, 2) := decs_at DX12_readLine_48 2 rfl
theorem dX12_readLine_102 : decode cX12_readLine 102 = .ok (.invokevirtual 187, 3) := decs_at DX12_readLine_48 3 rfl
theorem dX12_readLine_105 : decode cX12_readLine 105 = .ok (.ifCond .ne 5, 3) := decs_at DX12_readLine_48 4 rfl
theorem dX12_readLine_108 : decode cX12_readLine 108 = .ok (.iconst 0, 1) := decs_at DX12_readLine_48 5 rfl
theorem dX12_readLine_109 : decode cX12_readLine 109 = .ok (.ireturn, 1) := decs_at DX12_readLine_48 6 rfl
theorem dX12_readLine_110 : decode cX12_readLine 110 = .ok (.iload_n 1, 1) := decs_at DX12_readLine_48 7 rfl
theorem dX12_readLine_111 : decode cX12_readLine 111 = .ok (.ifCond .eq 14, 3) := decs_at DX12_readLine_48 8 rfl
theorem dX12_readLine_114 : decode cX12_readLine 114 = .ok (.aload_n 0, 1) := decs_at DX12_readLine_48 9 rfl
theorem dX12_readLine_115 : decode cX12_readLine 115 = .ok (.aload_n 0, 1) := decs_at DX12_readLine_48 10 rfl
theorem dX12_readLine_116 : decode cX12_readLine 116 = .ok (.getfield 166, 3) := decs_at DX12_readLine_48 11 rfl
theorem dX12_readLine_119 : decode cX12_readLine 119 = .ok (.putfield 204, 3) := decs_at DX12_readLine_48 12 rfl
theorem dX12_readLine_122 : decode cX12_readLine 122 = .ok (.goto 11, 3) := decs_at DX12_readLine_48 13 rfl
theorem dX12_readLine_125 : decode cX12_readLine 125 = .ok (.aload_n 0, 1) := decs_at DX12_readLine_48 14 rfl
theorem dX12_readLine_126 : decode cX12_readLine 126 = .ok (.aload_n 0, 1) := decs_at DX12_readLine_48 15 rfl
theorem dX12_readLine_127 : decode cX12_readLine 127 = .ok (.getfield 166, 3) := decs_at DX12_readLine_48 16 rfl
theorem dX12_readLine_130 : decode cX12_readLine 130 = .ok (.putfield 207, 3) := decs_at DX12_readLine_48 17 rfl
theorem dX12_readLine_133 : decode cX12_readLine 133 = .ok (.aload_n 0, 1) := decs_at DX12_readLine_48 18 rfl
theorem dX12_readLine_134 : decode cX12_readLine 134 = .ok (.invokevirtual 220, 3) := decs_at DX12_readLine_48 19 rfl
theorem dX12_readLine_137 : decode cX12_readLine 137 = .ok (.ireturn, 1) := decs_at DX12_readLine_48 20 rfl
theorem DX12_readStep_0 : decs cX12_readStep [(0, .aload_n 0, 1), (1, .bipush 100, 2), (3, .bipush 114, 2), (5, .bipush 97, 2), (7, .bipush 119, 2), (9, .iconst 0, 1), (10, .invokestatic 176, 3), (13, .invokevirtual 180, 3), (16, .istore_n 1, 1), (17, .aload_n 0, 1), (18, .bipush 108, 2), (20, .bipush 101, 2), (22, .bipush 116, 2), (24, .iconst 0, 1), (25, .iconst 0, 1), (26, .invokestatic 176, 3), (29, .invokevirtual 180, 3), (32, .ifCond .eq 7, 3), (35, .iconst 0, 1), (36, .goto 58, 3), (39, .aload_n 0, 1), (40, .bipush 104, 2), (42, .bipush 111, 2), (44, .bipush 108, 2)] := by unfold decs; decide +kernel
theorem dX12_readStep_0 : decode cX12_readStep 0 = .ok (.aload_n 0, 1) := decs_at DX12_readStep_0 0 rfl
theorem dX12_readStep_1 : decode cX12_readStep 1 = .ok (.bipush 100, 2) := decs_at DX12_readStep_0 1 rfl
theorem dX12_readStep_3 : decode cX12_readStep 3 = .ok (.bipush 114, 2) := decs_at DX12_readStep_0 2 rfl
theorem dX12_readStep_5 : decode cX12_readStep 5 = .ok (.bipush 97, 2) := decs_at DX12_readStep_0 3 rfl
theorem dX12_readStep_7 : decode cX12_readStep 7 = .ok (.bipush 119, 2) := decs_at DX12_readStep_0 4 rfl
theorem dX12_readStep_9 : decode cX12_readStep 9 = .ok (.iconst 0, 1) := decs_at DX12_readStep_0 5 rfl
theorem dX12_readStep_10 : decode cX12_readStep 10 = .ok (.invokestatic 176, 3) := decs_at DX12_readStep_0 6 rfl
theorem dX12_readStep_13 : decode cX12_readStep 13 = .ok (.invokevirtual 180, 3) := decs_at DX12_readStep_0 7 rfl
theorem dX12_readStep_16 : decode cX12_readStep 16 = .ok (.istore_n 1, 1) := decs_at DX12_readStep_0 8 rfl
theorem dX12_readStep_17 : decode cX12_readStep 17 = .ok (.aload_n 0, 1) := decs_at DX12_readStep_0 9 rfl
theorem dX12_readStep_18 : decode cX12_readStep 18 = .ok (.bipush 108, 2) := decs_at DX12_readStep_0 10 rfl
theorem dX12_readStep_20 : decode cX12_readStep 20 = .ok (.bipush 101, 2) := decs_at DX12_readStep_0 11 rfl
theorem dX12_readStep_22 : decode cX12_readStep 22 = .ok (.bipush 116, 2) := decs_at DX12_readStep_0 12 rfl
theorem dX12_readStep_24 : decode cX12_readStep 24 = .ok (.iconst 0, 1) := decs_at DX12_readStep_0 13 rfl
theorem dX12_readStep_25 : decode cX12_readStep 25 = .ok (.iconst 0, 1) := decs_at DX12_readStep_0 14 rfl
theorem dX12_readStep_26 : decode cX12_readStep 26 = .ok (.invokestatic 176, 3) := decs_at DX12_readStep_0 15 rfl
theorem dX12_readStep_29 : decode cX12_readStep 29 = .ok (.invokevirtual 180, 3) := decs_at DX12_readStep_0 16 rfl
theorem dX12_readStep_32 : decode cX12_readStep 32 = .ok (.ifCond .eq 7, 3) := decs_at DX12_readStep_0 17 rfl
theorem dX12_readStep_35 : decode cX12_readStep 35 = .ok (.iconst 0, 1) := decs_at DX12_readStep_0 18 rfl
theorem dX12_readStep_36 : decode cX12_readStep 36 = .ok (.goto 58, 3) := decs_at DX12_readStep_0 19 rfl
theorem dX12_readStep_39 : decode cX12_readStep 39 = .ok (.aload_n 0, 1) := decs_at DX12_readStep_0 20 rfl
theorem dX12_readStep_40 : decode cX12_readStep 40 = .ok (.bipush 104, 2) := decs_at DX12_readStep_0 21 rfl
theorem dX12_readStep_42 : decode cX12_readStep 42 = .ok (.bipush 111, 2) := decs_at DX12_readStep_0 22 rfl
theorem dX12_readStep_44 : decode cX12_readStep 44 = .ok (.bipush 108, 2) := decs_at DX12_readStep_0 23 rfl
theorem DX12_readStep_24 : decs cX12_readStep [(46, .bipush 100, 2), (48, .iconst 0, 1), (49, .invokestatic 176, 3), (52, .invokevirtual 180, 3), (55, .ifCond .eq 7, 3), (58, .iconst 1, 1), (59, .goto 35, 3), (62, .iload_n 1, 1), (63, .ifCond .eq 7, 3), (66, .iconst 2, 1), (67, .goto 27, 3), (70, .aload_n 0, 1), (71, .bipush 100, 2), (73, .bipush 117, 2), (75, .bipush 109, 2), (77, .bipush 112, 2), (79, .iconst 0, 1), (80, .invokestatic 176, 3), (83, .invokevirtual 180, 3), (86, .ifCond .eq 7, 3), (89, .iconst 3, 1), (90, .goto 4, 3), (93, .iconst (-1), 1), (94, .istore_n 2, 1)] := by unfold decs; decide +kernel
theorem dX12_readStep_46 : decode cX12_readStep 46 = .ok (.bipush 100, 2) := decs_at DX12_readStep_24 0 rfl
theorem dX12_readStep_48 : decode cX12_readStep 48 = .ok (.iconst 0, 1) := decs_at DX12_readStep_24 1 rfl
theorem dX12_readStep_49 : decode cX12_readStep 49 = .ok (.invokestatic 176, 3) := decs_at DX12_readStep_24 2 rfl
theorem dX12_readStep_52 : decode cX12_readStep 52 = .ok (.invokevirtual 180, 3) := decs_at DX12_readStep_24 3 rfl
theorem dX12_readStep_55 : decode cX12_readStep 55 = .ok (.ifCond .eq 7, 3) := decs_at DX12_readStep_24 4 rfl
theorem dX12_readStep_58 : decode cX12_readStep 58 = .ok (.iconst 1, 1) := decs_at DX12_readStep_24 5 rfl
theorem dX12_readStep_59 : decode cX12_readStep 59 = .ok (.goto 35, 3) := decs_at DX12_readStep_24 6 rfl
theorem dX12_readStep_62 : decode cX12_readStep 62 = .ok (.iload_n 1, 1) := decs_at DX12_readStep_24 7 rfl
theorem dX12_readStep_63 : decode cX12_readStep 63 = .ok (.ifCond .eq 7, 3) := decs_at DX12_readStep_24 8 rfl
theorem dX12_readStep_66 : decode cX12_readStep 66 = .ok (.iconst 2, 1) := decs_at DX12_readStep_24 9 rfl
theorem dX12_readStep_67 : decode cX12_readStep 67 = .ok (.goto 27, 3) := decs_at DX12_readStep_24 10 rfl
theorem dX12_readStep_70 : decode cX12_readStep 70 = .ok (.aload_n 0, 1) := decs_at DX12_readStep_24 11 rfl
theorem dX12_readStep_71 : decode cX12_readStep 71 = .ok (.bipush 100, 2) := decs_at DX12_readStep_24 12 rfl
theorem dX12_readStep_73 : decode cX12_readStep 73 = .ok (.bipush 117, 2) := decs_at DX12_readStep_24 13 rfl
theorem dX12_readStep_75 : decode cX12_readStep 75 = .ok (.bipush 109, 2) := decs_at DX12_readStep_24 14 rfl
theorem dX12_readStep_77 : decode cX12_readStep 77 = .ok (.bipush 112, 2) := decs_at DX12_readStep_24 15 rfl
theorem dX12_readStep_79 : decode cX12_readStep 79 = .ok (.iconst 0, 1) := decs_at DX12_readStep_24 16 rfl
theorem dX12_readStep_80 : decode cX12_readStep 80 = .ok (.invokestatic 176, 3) := decs_at DX12_readStep_24 17 rfl
theorem dX12_readStep_83 : decode cX12_readStep 83 = .ok (.invokevirtual 180, 3) := decs_at DX12_readStep_24 18 rfl
theorem dX12_readStep_86 : decode cX12_readStep 86 = .ok (.ifCond .eq 7, 3) := decs_at DX12_readStep_24 19 rfl
theorem dX12_readStep_89 : decode cX12_readStep 89 = .ok (.iconst 3, 1) := decs_at DX12_readStep_24 20 rfl
theorem dX12_readStep_90 : decode cX12_readStep 90 = .ok (.goto 4, 3) := decs_at DX12_readStep_24 21 rfl
theorem dX12_readStep_93 : decode cX12_readStep 93 = .ok (.iconst (-1), 1) := decs_at DX12_readStep_24 22 rfl
theorem dX12_readStep_94 : decode cX12_readStep 94 = .ok (.istore_n 2, 1) := decs_at DX12_readStep_24 23 rfl
theorem DX12_readStep_48 : decs cX12_readStep [(95, .iload_n 2, 1), (96, .iconst (-1), 1), (97, .if_icmp .ne 9, 3), (100, .aload_n 0, 1), (101, .iconst 1, 1), (102, .invokevirtual 159, 3), (105, .ireturn, 1), (106, .aload_n 0, 1), (107, .getfield 229, 3), (110, .bipush 20, 2), (112, .if_icmp .ne 9, 3), (115, .aload_n 0, 1), (116, .iconst 4, 1), (117, .invokevirtual 159, 3), (120, .ireturn, 1), (121, .bipush 20, 2), (123, .aload_n 0, 1), (124, .getfield 229, 3), (127, .iadd, 1), (128, .istore_n 3, 1), (129, .aload_n 0, 1), (130, .invokevirtual 169, 3), (133, .iload_n 1, 1), (134, .ifCond .eq 25, 3)] := by unfold decs; decide +kernel
theorem dX12_readStep_95 : decode cX12_readStep 95 = .ok (.iload_n 2, 1) := decs_at DX12_readStep_48 0 rfl
theorem dX12_readStep_96 : decode cX12_readStep 96 = .ok (.iconst (-1), 1) := decs_at DX12_readStep_48 1 rfl
theorem dX12_readStep_97 : decode cX12_readStep 97 = .ok (.if_icmp .ne 9, 3) := decs_at DX12_readStep_48 2 rfl
theorem dX12_readStep_100 : decode cX12_readStep 100 = .ok (.aload_n 0, 1) := decs_at DX12_readStep_48 3 rfl
theorem dX12_readStep_101 : decode cX12_readStep 101 = .ok (.iconst 1, 1) := decs_at DX12_readStep_48 4 rfl
theorem dX12_readStep_102 : decode cX12_readStep 102 = .ok (.invokevirtual 159, 3) := decs_at DX12_readStep_48 5 rfl
theorem dX12_readStep_105 : decode cX12_readStep 105 = .ok (.ireturn, 1) := decs_at DX12_readStep_48 6 rfl
theorem dX12_readStep_106 : decode cX12_readStep 106 = .ok (.aload_n 0, 1) := decs_at DX12_readStep_48 7 rfl
theorem dX12_readStep_107 : decode cX12_readStep 107 = .ok (.getfield 229, 3) := decs_at DX12_readStep_48 8 rfl
theorem dX12_readStep_110 : decode cX12_readStep 110 = .ok (.bipush 20, 2) := decs_at DX12_readStep_48 9 rfl
theorem dX12_readStep_112 : decode cX12_readStep 112 = .ok (.if_icmp .ne 9, 3) := decs_at DX12_readStep_48 10 rfl
theorem dX12_readStep_115 : decode cX12_readStep 115 = .ok (.aload_n 0, 1) := decs_at DX12_readStep_48 11 rfl
theorem dX12_readStep_116 : decode cX12_readStep 116 = .ok (.iconst 4, 1) := decs_at DX12_readStep_48 12 rfl
theorem dX12_readStep_117 : decode cX12_readStep 117 = .ok (.invokevirtual 159, 3) := decs_at DX12_readStep_48 13 rfl
theorem dX12_readStep_120 : decode cX12_readStep 120 = .ok (.ireturn, 1) := decs_at DX12_readStep_48 14 rfl
theorem dX12_readStep_121 : decode cX12_readStep 121 = .ok (.bipush 20, 2) := decs_at DX12_readStep_48 15 rfl
theorem dX12_readStep_123 : decode cX12_readStep 123 = .ok (.aload_n 0, 1) := decs_at DX12_readStep_48 16 rfl
theorem dX12_readStep_124 : decode cX12_readStep 124 = .ok (.getfield 229, 3) := decs_at DX12_readStep_48 17 rfl
theorem dX12_readStep_127 : decode cX12_readStep 127 = .ok (.iadd, 1) := decs_at DX12_readStep_48 18 rfl
theorem dX12_readStep_128 : decode cX12_readStep 128 = .ok (.istore_n 3, 1) := decs_at DX12_readStep_48 19 rfl
theorem dX12_readStep_129 : decode cX12_readStep 129 = .ok (.aload_n 0, 1) := decs_at DX12_readStep_48 20 rfl
theorem dX12_readStep_130 : decode cX12_readStep 130 = .ok (.invokevirtual 169, 3) := decs_at DX12_readStep_48 21 rfl
theorem dX12_readStep_133 : decode cX12_readStep 133 = .ok (.iload_n 1, 1) := decs_at DX12_readStep_48 22 rfl
theorem dX12_readStep_134 : decode cX12_readStep 134 = .ok (.ifCond .eq 25, 3) := decs_at DX12_readStep_48 23 rfl
theorem DX12_readStep_72 : decs cX12_readStep [(137, .aload_n 0, 1), (138, .iconst 1, 1), (139, .bipush 99, 2), (141, .invokevirtual 187, 3), (144, .ifCond .ne 5, 3), (147, .iconst 0, 1), (148, .ireturn, 1), (149, .aload_n 0, 1), (150, .getfield 29, 3), (153, .iload_n 3, 1), (154, .aload_n 0, 1), (155, .getfield 166, 3), (158, .iastore, 1), (159, .aload_n 0, 1), (160, .iconst 1, 1), (161, .bipush 99, 2), (163, .invokevirtual 187, 3), (166, .ifCond .ne 5, 3), (169, .iconst 0, 1), (170, .ireturn, 1), (171, .aload_n 0, 1), (172, .getfield 26, 3), (175, .iload_n 3, 1), (176, .iload_n 2, 1)] := by unfold decs; decide +kernel
theorem dX12_readStep_137 : decode cX12_readStep 137 = .ok (.aload_n 0, 1) := decs_at DX12_readStep_72 0 rfl
theorem dX12_readStep_138 : decode cX12_readStep 138 = .ok (.iconst 1, 1) := decs_at DX12_readStep_72 1 rfl
theorem dX12_readStep_139 : decode cX12_readStep 139 = .ok (.bipush 99, 2) := decs_at DX12_readStep_72 2 rfl
theorem dX12_readStep_141 : decode cX12_readStep 141 = .ok (.invokevirtual 187, 3) := decs_at DX12_readStep_72 3 rfl
theorem dX12_readStep_144 : decode cX12_readStep 144 = .ok (.ifCond .ne 5, 3) := decs_at DX12_readStep_72 4 rfl
theorem dX12_readStep_147 : decode cX12_readStep 147 = .ok (.iconst 0, 1) := decs_at DX12_readStep_72 5 rfl
theorem dX12_readStep_148 : decode cX12_readStep 148 = .ok (.ireturn, 1) := decs_at DX12_readStep_72 6 rfl
theorem dX12_readStep_149 : decode cX12_readStep 149 = .ok (.aload_n 0, 1) := decs_at DX12_readStep_72 7 rfl
theorem dX12_readStep_150 : decode cX12_readStep 150 = .ok (.getfield 29, 3) := decs_at DX12_readStep_72 8 rfl
theorem dX12_readStep_153 : decode cX12_readStep 153 = .ok (.iload_n 3, 1) := decs_at DX12_readStep_72 9 rfl
theorem dX12_readStep_154 : decode cX12_readStep 154 = .ok (.aload_n 0, 1) := decs_at DX12_readStep_72 10 rfl
theorem dX12_readStep_155 : decode cX12_readStep 155 = .ok (.getfield 166, 3) := decs_at DX12_readStep_72 11 rfl
theorem dX12_readStep_158 : decode cX12_readStep 158 = .ok (.iastore, 1) := decs_at DX12_readStep_72 12 rfl
theorem dX12_readStep_159 : decode cX12_readStep 159 = .ok (.aload_n 0, 1) := decs_at DX12_readStep_72 13 rfl
theorem dX12_readStep_160 : decode cX12_readStep 160 = .ok (.iconst 1, 1) := decs_at DX12_readStep_72 14 rfl
theorem dX12_readStep_161 : decode cX12_readStep 161 = .ok (.bipush 99, 2) := decs_at DX12_readStep_72 15 rfl
theorem dX12_readStep_163 : decode cX12_readStep 163 = .ok (.invokevirtual 187, 3) := decs_at DX12_readStep_72 16 rfl
theorem dX12_readStep_166 : decode cX12_readStep 166 = .ok (.ifCond .ne 5, 3) := decs_at DX12_readStep_72 17 rfl
theorem dX12_readStep_169 : decode cX12_readStep 169 = .ok (.iconst 0, 1) := decs_at DX12_readStep_72 18 rfl
theorem dX12_readStep_170 : decode cX12_readStep 170 = .ok (.ireturn, 1) := decs_at DX12_readStep_72 19 rfl
theorem dX12_readStep_171 : decode cX12_readStep 171 = .ok (.aload_n 0, 1) := decs_at DX12_readStep_72 20 rfl
theorem dX12_readStep_172 : decode cX12_readStep 172 = .ok (.getfield 26, 3) := decs_at DX12_readStep_72 21 rfl
theorem dX12_readStep_175 : decode cX12_readStep 175 = .ok (.iload_n 3, 1) := decs_at DX12_readStep_72 22 rfl
theorem dX12_readStep_176 : decode cX12_readStep 176 = .ok (.iload_n 2, 1) := decs_at DX12_readStep_72 23 rfl
theorem DX12_readStep_96 : decs cX12_readStep [(177, .iastore, 1), (178, .aload_n 0, 1), (179, .getfield 32, 3), (182, .iload_n 3, 1), (183, .aload_n 0, 1), (184, .getfield 166, 3), (187, .iastore, 1), (188, .aload_n 0, 1), (189, .dup, 1), (190, .getfield 229, 3), (193, .iconst 1, 1), (194, .iadd, 1), (195, .putfield 229, 3), (198, .aload_n 0, 1), (199, .invokevirtual 220, 3), (202, .ireturn, 1)] := by unfold decs; decide +kernel
theorem dX12_readStep_177 : decode cX12_readStep 177 = .ok (.iastore, 1) := decs_at DX12_readStep_96 0 rfl
theorem dX12_readStep_178 : decode cX12_readStep 178 = .ok (.aload_n 0, 1) := decs_at DX12_readStep_96 1 rfl
theorem dX12_readStep_179 : decode cX12_readStep 179 = .ok (.getfield 32, 3) := decs_at DX12_readStep_96 2 rfl
theorem dX12_readStep_182 : decode cX12_readStep 182 = .ok (.iload_n 3, 1) := decs_at DX12_readStep_96 3 rfl
theorem dX12_readStep_183 : decode cX12_readStep 183 = .ok (.aload_n 0, 1) := decs_at DX12_readStep_96 4 rfl
theorem dX12_readStep_184 : decode cX12_readStep 184 = .ok (.getfield 166, 3) := decs_at DX12_readStep_96 5 rfl
theorem dX12_readStep_187 : decode cX12_readStep 187 = .ok (.iastore, 1) := decs_at DX12_readStep_96 6 rfl
theorem dX12_readStep_188 : decode cX12_readStep 188 = .ok (.aload_n 0, 1) := decs_at DX12_readStep_96 7 rfl
theorem dX12_readStep_189 : decode cX12_readStep 189 = .ok (.dup, 1) := decs_at DX12_readStep_96 8 rfl
theorem dX12_readStep_190 : decode cX12_readStep 190 = .ok (.getfield 229, 3) := decs_at DX12_readStep_96 9 rfl
theorem dX12_readStep_193 : decode cX12_readStep 193 = .ok (.iconst 1, 1) := decs_at DX12_readStep_96 10 rfl
theorem dX12_readStep_194 : decode cX12_readStep 194 = .ok (.iadd, 1) := decs_at DX12_readStep_96 11 rfl
theorem dX12_readStep_195 : decode cX12_readStep 195 = .ok (.putfield 229, 3) := decs_at DX12_readStep_96 12 rfl
theorem dX12_readStep_198 : decode cX12_readStep 198 = .ok (.aload_n 0, 1) := decs_at DX12_readStep_96 13 rfl
theorem dX12_readStep_199 : decode cX12_readStep 199 = .ok (.invokevirtual 220, 3) := decs_at DX12_readStep_96 14 rfl
theorem dX12_readStep_202 : decode cX12_readStep 202 = .ok (.ireturn, 1) := decs_at DX12_readStep_96 15 rfl
theorem DX12_handle_0 : decs cX12_handle [(0, .aload_n 0, 1), (1, .iconst 0, 1), (2, .putfield 106, 3), (5, .aload_n 0, 1), (6, .aload_n 0, 1), (7, .invokevirtual 201, 3), (10, .putfield 116, 3), (13, .aload_n 0, 1), (14, .sipush 300, 3), (17, .putfield 125, 3), (20, .aload_n 0, 1), (21, .iconst 0, 1), (22, .putfield 153, 3), (25, .aload_n 0, 1), (26, .iconst 0, 1), (27, .putfield 229, 3), (30, .aload_n 0, 1), (31, .iconst 0, 1), (32, .putfield 119, 3), (35, .aload_n 0, 1), (36, .invokevirtual 169, 3), (39, .aload_n 0, 1), (40, .aload_n 0, 1), (41, .bipush 98, 2)] := by unfold decs; decide +kernel
theorem dX12_handle_0 : decode cX12_handle 0 = .ok (.aload_n 0, 1) := decs_at DX12_handle_0 0 rfl
theorem dX12_handle_1 : decode cX12_handle 1 = .ok (.iconst 0, 1) := decs_at DX12_handle_0 1 rfl
theorem dX12_handle_2 : decode cX12_handle 2 = .ok (.putfield 106, 3) := decs_at DX12_handle_0 2 rfl
theorem dX12_handle_5 : decode cX12_handle 5 = .ok (.aload_n 0, 1) := decs_at DX12_handle_0 3 rfl
theorem dX12_handle_6 : decode cX12_handle 6 = .ok (.aload_n 0, 1) := decs_at DX12_handle_0 4 rfl
theorem dX12_handle_7 : decode cX12_handle 7 = .ok (.invokevirtual 201, 3) := decs_at DX12_handle_0 5 rfl
theorem dX12_handle_10 : decode cX12_handle 10 = .ok (.putfield 116, 3) := decs_at DX12_handle_0 6 rfl
theorem dX12_handle_13 : decode cX12_handle 13 = .ok (.aload_n 0, 1) := decs_at DX12_handle_0 7 rfl
theorem dX12_handle_14 : decode cX12_handle 14 = .ok (.sipush 300, 3) := decs_at DX12_handle_0 8 rfl
theorem dX12_handle_17 : decode cX12_handle 17 = .ok (.putfield 125, 3) := decs_at DX12_handle_0 9 rfl
theorem dX12_handle_20 : decode cX12_handle 20 = .ok (.aload_n 0, 1) := decs_at DX12_handle_0 10 rfl
theorem dX12_handle_21 : decode cX12_handle 21 = .ok (.iconst 0, 1) := decs_at DX12_handle_0 11 rfl
theorem dX12_handle_22 : decode cX12_handle 22 = .ok (.putfield 153, 3) := decs_at DX12_handle_0 12 rfl
theorem dX12_handle_25 : decode cX12_handle 25 = .ok (.aload_n 0, 1) := decs_at DX12_handle_0 13 rfl
theorem dX12_handle_26 : decode cX12_handle 26 = .ok (.iconst 0, 1) := decs_at DX12_handle_0 14 rfl
theorem dX12_handle_27 : decode cX12_handle 27 = .ok (.putfield 229, 3) := decs_at DX12_handle_0 15 rfl
theorem dX12_handle_30 : decode cX12_handle 30 = .ok (.aload_n 0, 1) := decs_at DX12_handle_0 16 rfl
theorem dX12_handle_31 : decode cX12_handle 31 = .ok (.iconst 0, 1) := decs_at DX12_handle_0 17 rfl
theorem dX12_handle_32 : decode cX12_handle 32 = .ok (.putfield 119, 3) := decs_at DX12_handle_0 18 rfl
theorem dX12_handle_35 : decode cX12_handle 35 = .ok (.aload_n 0, 1) := decs_at DX12_handle_0 19 rfl
theorem dX12_handle_36 : decode cX12_handle 36 = .ok (.invokevirtual 169, 3) := decs_at DX12_handle_0 20 rfl
theorem dX12_handle_39 : decode cX12_handle 39 = .ok (.aload_n 0, 1) := decs_at DX12_handle_0 21 rfl
theorem dX12_handle_40 : decode cX12_handle 40 = .ok (.aload_n 0, 1) := decs_at DX12_handle_0 22 rfl
theorem dX12_handle_41 : decode cX12_handle 41 = .ok (.bipush 98, 2) := decs_at DX12_handle_0 23 rfl
theorem DX12_handle_24 : decs cX12_handle [(43, .bipush 111, 2), (45, .bipush 116, 2), (47, .bipush 104, 2), (49, .iconst 0, 1), (50, .invokestatic 176, 3), (53, .invokevirtual 180, 3), (56, .putfield 232, 3), (59, .aload_n 0, 1), (60, .getfield 232, 3), (63, .ifCond .eq 21, 3), (66, .aload_n 0, 1), (67, .invokevirtual 169, 3), (70, .aload_n 0, 1), (71, .invokevirtual 220, 3), (74, .ifCond .ne 10, 3), (77, .iconst (-1), 1), (78, .aload_n 0, 1), (79, .getfield 156, 3), (82, .isub, 1), (83, .ireturn, 1), (84, .aload_n 0, 1), (85, .getfield 128, 3), (88, .ifCond .eq 17, 3), (91, .aload_n 0, 1)] := by unfold decs; decide +kernel
theorem dX12_handle_43 : decode cX12_handle 43 = .ok (.bipush 111, 2) := decs_at DX12_handle_24 0 rfl
theorem dX12_handle_45 : decode cX12_handle 45 = .ok (.bipush 116, 2) := decs_at DX12_handle_24 1 rfl
theorem dX12_handle_47 : decode cX12_handle 47 = .ok (.bipush 104, 2) := decs_at DX12_handle_24 2 rfl
theorem dX12_handle_49 : decode cX12_handle 49 = .ok (.iconst 0, 1) := decs_at DX12_handle_24 3 rfl
theorem dX12_handle_50 : decode cX12_handle 50 = .ok (.invokestatic 176, 3) := decs_at DX12_handle_24 4 rfl
theorem dX12_handle_53 : decode cX12_handle 53 = .ok (.invokevirtual 180, 3) := decs_at DX12_handle_24 5 rfl
theorem dX12_handle_56 : decode cX12_handle 56 = .ok (.putfield 232, 3) := decs_at DX12_handle_24 6 rfl
theorem dX12_handle_59 : decode cX12_handle 59 = .ok (.aload_n 0, 1) := decs_at DX12_handle_24 7 rfl
theorem dX12_handle_60 : decode cX12_handle 60 = .ok (.getfield 232, 3) := decs_at DX12_handle_24 8 rfl
theorem dX12_handle_63 : decode cX12_handle 63 = .ok (.ifCond .eq 21, 3) := decs_at DX12_handle_24 9 rfl
theorem dX12_handle_66 : decode cX12_handle 66 = .ok (.aload_n 0, 1) := decs_at DX12_handle_24 10 rfl
theorem dX12_handle_67 : decode cX12_handle 67 = .ok (.invokevirtual 169, 3) := decs_at DX12_handle_24 11 rfl
theorem dX12_handle_70 : decode cX12_handle 70 = .ok (.aload_n 0, 1) := decs_at DX12_handle_24 12 rfl
theorem dX12_handle_71 : decode cX12_handle 71 = .ok (.invokevirtual 220, 3) := decs_at DX12_handle_24 13 rfl
theorem dX12_handle_74 : decode cX12_handle 74 = .ok (.ifCond .ne 10, 3) := decs_at DX12_handle_24 14 rfl
theorem dX12_handle_77 : decode cX12_handle 77 = .ok (.iconst (-1), 1) := decs_at DX12_handle_24 15 rfl
theorem dX12_handle_78 : decode cX12_handle 78 = .ok (.aload_n 0, 1) := decs_at DX12_handle_24 16 rfl
theorem dX12_handle_79 : decode cX12_handle 79 = .ok (.getfield 156, 3) := decs_at DX12_handle_24 17 rfl
theorem dX12_handle_82 : decode cX12_handle 82 = .ok (.isub, 1) := decs_at DX12_handle_24 18 rfl
theorem dX12_handle_83 : decode cX12_handle 83 = .ok (.ireturn, 1) := decs_at DX12_handle_24 19 rfl
theorem dX12_handle_84 : decode cX12_handle 84 = .ok (.aload_n 0, 1) := decs_at DX12_handle_24 20 rfl
theorem dX12_handle_85 : decode cX12_handle 85 = .ok (.getfield 128, 3) := decs_at DX12_handle_24 21 rfl
theorem dX12_handle_88 : decode cX12_handle 88 = .ok (.ifCond .eq 17, 3) := decs_at DX12_handle_24 22 rfl
theorem dX12_handle_91 : decode cX12_handle 91 = .ok (.aload_n 0, 1) := decs_at DX12_handle_24 23 rfl
theorem DX12_handle_48 : decs cX12_handle [(92, .invokevirtual 235, 3), (95, .ifCond .ne (-11), 3), (98, .iconst (-1), 1), (99, .aload_n 0, 1), (100, .getfield 156, 3), (103, .isub, 1), (104, .ireturn, 1), (105, .aload_n 0, 1), (106, .aload_n 0, 1), (107, .getfield 229, 3), (110, .putfield 238, 3), (113, .aload_n 0, 1), (114, .aload_n 0, 1), (115, .getfield 232, 3), (118, .putfield 241, 3), (121, .iconst 0, 1), (122, .istore_n 1, 1), (123, .iload_n 1, 1), (124, .bipush 20, 2), (126, .if_icmp .ge 54, 3), (129, .aload_n 0, 1), (130, .getfield 26, 3), (133, .iload_n 1, 1), (134, .aload_n 0, 1)] := by unfold decs; decide +kernel
theorem dX12_handle_92 : decode cX12_handle 92 = .ok (.invokevirtual 235, 3) := decs_at DX12_handle_48 0 rfl
theorem dX12_handle_95 : decode cX12_handle 95 = .ok (.ifCond .ne (-11), 3) := decs_at DX12_handle_48 1 rfl
theorem dX12_handle_98 : decode cX12_handle 98 = .ok (.iconst (-1), 1) := decs_at DX12_handle_48 2 rfl
theorem dX12_handle_99 : decode cX12_handle 99 = .ok (.aload_n 0, 1) := decs_at DX12_handle_48 3 rfl
theorem dX12_handle_100 : decode cX12_handle 100 = .ok (.getfield 156, 3) := decs_at DX12_handle_48 4 rfl
theorem dX12_handle_103 : decode cX12_handle 103 = .ok (.isub, 1) := decs_at DX12_handle_48 5 rfl
theorem dX12_handle_104 : decode cX12_handle 104 = .ok (.ireturn, 1) := decs_at DX12_handle_48 6 rfl
theorem dX12_handle_105 : decode cX12_handle 105 = .ok (.aload_n 0, 1) := decs_at DX12_handle_48 7 rfl
theorem dX12_handle_106 : decode cX12_handle 106 = .ok (.aload_n 0, 1) := decs_at DX12_handle_48 8 rfl
theorem dX12_handle_107 : decode cX12_handle 107 = .ok (.getfield 229, 3) := decs_at DX12_handle_48 9 rfl
theorem dX12_handle_110 : decode cX12_handle 110 = .ok (.putfield 238, 3) := decs_at DX12_handle_48 10 rfl
theorem dX12_handle_113 : decode cX12_handle 113 = .ok (.aload_n 0, 1) := decs_at DX12_handle_48 11 rfl
theorem dX12_handle_114 : decode cX12_handle 114 = .ok (.aload_n 0, 1) := decs_at DX12_handle_48 12 rfl
theorem dX12_handle_115 : decode cX12_handle 115 = .ok (.getfield 232, 3) := decs_at DX12_handle_48 13 rfl
theorem dX12_handle_118 : decode cX12_handle 118 = .ok (.putfield 241, 3) := decs_at DX12_handle_48 14 rfl
theorem dX12_handle_121 : decode cX12_handle 121 = .ok (.iconst 0, 1) := decs_at DX12_handle_48 15 rfl
theorem dX12_handle_122 : decode cX12_handle 122 = .ok (.istore_n 1, 1) := decs_at DX12_handle_48 16 rfl
theorem dX12_handle_123 : decode cX12_handle 123 = .ok (.iload_n 1, 1) := decs_at DX12_handle_48 17 rfl
theorem dX12_handle_124 : decode cX12_handle 124 = .ok (.bipush 20, 2) := decs_at DX12_handle_48 18 rfl
theorem dX12_handle_126 : decode cX12_handle 126 = .ok (.if_icmp .ge 54, 3) := decs_at DX12_handle_48 19 rfl
theorem dX12_handle_129 : decode cX12_handle 129 = .ok (.aload_n 0, 1) := decs_at DX12_handle_48 20 rfl
theorem dX12_handle_130 : decode cX12_handle 130 = .ok (.getfield 26, 3) := decs_at DX12_handle_48 21 rfl
theorem dX12_handle_133 : decode cX12_handle 133 = .ok (.iload_n 1, 1) := decs_at DX12_handle_48 22 rfl
theorem dX12_handle_134 : decode cX12_handle 134 = .ok (.aload_n 0, 1) := decs_at DX12_handle_48 23 rfl
theorem DX12_handle_72 : decs cX12_handle [(135, .getfield 26, 3), (138, .bipush 20, 2), (140, .iload_n 1, 1), (141, .iadd, 1), (142, .iaload, 1), (143, .iastore, 1), (144, .aload_n 0, 1), (145, .getfield 29, 3), (148, .iload_n 1, 1), (149, .aload_n 0, 1), (150, .getfield 29, 3), (153, .bipush 20, 2), (155, .iload_n 1, 1), (156, .iadd, 1), (157, .iaload, 1), (158, .iastore, 1), (159, .aload_n 0, 1), (160, .getfield 32, 3), (163, .iload_n 1, 1), (164, .aload_n 0, 1), (165, .getfield 32, 3), (168, .bipush 20, 2), (170, .iload_n 1, 1), (171, .iadd, 1)] := by unfold decs; decide +kernel
theorem dX12_handle_135 : decode cX12_handle 135 = .ok (.getfield 26, 3) := decs_at DX12_handle_72 0 rfl
theorem dX12_handle_138 : decode cX12_handle 138 = .ok (.bipush 20, 2) := decs_at DX12_handle_72 1 rfl
theorem dX12_handle_140 : decode cX12_handle 140 = .ok (.iload_n 1, 1) := decs_at DX12_handle_72 2 rfl
theorem dX12_handle_141 : decode cX12_handle 141 = .ok (.iadd, 1) := decs_at DX12_handle_72 3 rfl
theorem dX12_handle_142 : decode cX12_handle 142 = .ok (.iaload, 1) := decs_at DX12_handle_72 4 rfl
theorem dX12_handle_143 : decode cX12_handle 143 = .ok (.iastore, 1) := decs_at DX12_handle_72 5 rfl
theorem dX12_handle_144 : decode cX12_handle 144 = .ok (.aload_n 0, 1) := decs_at DX12_handle_72 6 rfl
theorem dX12_handle_145 : decode cX12_handle 145 = .ok (.getfield 29, 3) := decs_at DX12_handle_72 7 rfl
theorem dX12_handle_148 : decode cX12_handle 148 = .ok (.iload_n 1, 1) := decs_at DX12_handle_72 8 rfl
theorem dX12_handle_149 : decode cX12_handle 149 = .ok (.aload_n 0, 1) := decs_at DX12_handle_72 9 rfl
theorem dX12_handle_150 : decode cX12_handle 150 = .ok (.getfield 29, 3) := decs_at DX12_handle_72 10 rfl
theorem dX12_handle_153 : decode cX12_handle 153 = .ok (.bipush 20, 2) := decs_at DX12_handle_72 11 rfl
theorem dX12_handle_155 : decode cX12_handle 155 = .ok (.iload_n 1, 1) := decs_at DX12_handle_72 12 rfl
theorem dX12_handle_156 : decode cX12_handle 156 = .ok (.iadd, 1) := decs_at DX12_handle_72 13 rfl
theorem dX12_handle_157 : decode cX12_handle 157 = .ok (.iaload, 1) := decs_at DX12_handle_72 14 rfl
theorem dX12_handle_158 : decode cX12_handle 158 = .ok (.iastore, 1) := decs_at DX12_handle_72 15 rfl
theorem dX12_handle_159 : decode cX12_handle 159 = .ok (.aload_n 0, 1) := decs_at DX12_handle_72 16 rfl
theorem dX12_handle_160 : decode cX12_handle 160 = .ok (.getfield 32, 3) := decs_at DX12_handle_72 17 rfl
theorem dX12_handle_163 : decode cX12_handle 163 = .ok (.iload_n 1, 1) := decs_at DX12_handle_72 18 rfl
theorem dX12_handle_164 : decode cX12_handle 164 = .ok (.aload_n 0, 1) := decs_at DX12_handle_72 19 rfl
theorem dX12_handle_165 : decode cX12_handle 165 = .ok (.getfield 32, 3) := decs_at DX12_handle_72 20 rfl
theorem dX12_handle_168 : decode cX12_handle 168 = .ok (.bipush 20, 2) := decs_at DX12_handle_72 21 rfl
theorem dX12_handle_170 : decode cX12_handle 170 = .ok (.iload_n 1, 1) := decs_at DX12_handle_72 22 rfl
theorem dX12_handle_171 : decode cX12_handle 171 = .ok (.iadd, 1) := decs_at DX12_handle_72 23 rfl
theorem DX12_handle_96 : decs cX12_handle [(172, .iaload, 1), (173, .iastore, 1), (174, .iinc 1 1, 3), (177, .goto (-54), 3), (180, .aload_n 0, 1), (181, .getfield 238, 3), (184, .ireturn, 1)] := by unfold decs; decide +kernel
theorem dX12_handle_172 : decode cX12_handle 172 = .ok (.iaload, 1) := decs_at DX12_handle_96 0 rfl
theorem dX12_handle_173 : decode cX12_handle 173 = .ok (.iastore, 1) := decs_at DX12_handle_96 1 rfl
theorem dX12_handle_174 : decode cX12_handle 174 = .ok (.iinc 1 1, 3) := decs_at DX12_handle_96 2 rfl
theorem dX12_handle_177 : decode cX12_handle 177 = .ok (.goto (-54), 3) := decs_at DX12_handle_96 3 rfl
theorem dX12_handle_180 : decode cX12_handle 180 = .ok (.aload_n 0, 1) := decs_at DX12_handle_96 4 rfl
theorem dX12_handle_181 : decode cX12_handle 181 = .ok (.getfield 238, 3) := decs_at DX12_handle_96 5 rfl
theorem dX12_handle_184 : decode cX12_handle 184 = .ok (.ireturn, 1) := decs_at DX12_handle_96 6 rfl
theorem DX12_fault_0 : decs cX12_fault [(0, .aload_n 0, 1), (1, .iconst 0, 1), (2, .putfield 106, 3), (5, .aload_n 0, 1), (6, .getfield 153, 3), (9, .ireturn, 1)] := by unfold decs; decide +kernel
theorem dX12_fault_0 : decode cX12_fault 0 = .ok (.aload_n 0, 1) := decs_at DX12_fault_0 0 rfl
theorem dX12_fault_1 : decode cX12_fault 1 = .ok (.iconst 0, 1) := decs_at DX12_fault_0 1 rfl
theorem dX12_fault_2 : decode cX12_fault 2 = .ok (.putfield 106, 3) := decs_at DX12_fault_0 2 rfl
theorem dX12_fault_5 : decode cX12_fault 5 = .ok (.aload_n 0, 1) := decs_at DX12_fault_0 3 rfl
theorem dX12_fault_6 : decode cX12_fault 6 = .ok (.getfield 153, 3) := decs_at DX12_fault_0 4 rfl
theorem dX12_fault_9 : decode cX12_fault 9 = .ok (.ireturn, 1) := decs_at DX12_fault_0 5 rfl
theorem DX12_car_0 : decs cX12_car [(0, .aload_n 0, 1), (1, .invokevirtual 198, 3), (4, .iload_n 1, 1), (5, .iconst 1, 1), (6, .aload_n 0, 1), (7, .getfield 16, 3), (10, .invokestatic 162, 3), (13, .ifCond .eq 13, 3), (16, .iload_n 2, 1), (17, .iconst 0, 1), (18, .bipush 6, 2), (20, .invokestatic 162, 3), (23, .ifCond .ne 8, 3), (26, .aload_n 0, 1), (27, .invokevirtual 244, 3), (30, .ireturn, 1), (31, .aload_n 0, 1), (32, .iconst 0, 1), (33, .putfield 106, 3), (36, .aload_n 0, 1), (37, .getfield 13, 3), (40, .bipush 32, 2), (42, .iload_n 2, 1), (43, .imul, 1)] := by unfold decs; decide +kernel
theorem dX12_car_0 : decode cX12_car 0 = .ok (.aload_n 0, 1) := decs_at DX12_car_0 0 rfl
theorem dX12_car_1 : decode cX12_car 1 = .ok (.invokevirtual 198, 3) := decs_at DX12_car_0 1 rfl
theorem dX12_car_4 : decode cX12_car 4 = .ok (.iload_n 1, 1) := decs_at DX12_car_0 2 rfl
theorem dX12_car_5 : decode cX12_car 5 = .ok (.iconst 1, 1) := decs_at DX12_car_0 3 rfl
theorem dX12_car_6 : decode cX12_car 6 = .ok (.aload_n 0, 1) := decs_at DX12_car_0 4 rfl
theorem dX12_car_7 : decode cX12_car 7 = .ok (.getfield 16, 3) := decs_at DX12_car_0 5 rfl
theorem dX12_car_10 : decode cX12_car 10 = .ok (.invokestatic 162, 3) := decs_at DX12_car_0 6 rfl
theorem dX12_car_13 : decode cX12_car 13 = .ok (.ifCond .eq 13, 3) := decs_at DX12_car_0 7 rfl
theorem dX12_car_16 : decode cX12_car 16 = .ok (.iload_n 2, 1) := decs_at DX12_car_0 8 rfl
theorem dX12_car_17 : decode cX12_car 17 = .ok (.iconst 0, 1) := decs_at DX12_car_0 9 rfl
theorem dX12_car_18 : decode cX12_car 18 = .ok (.bipush 6, 2) := decs_at DX12_car_0 10 rfl
theorem dX12_car_20 : decode cX12_car 20 = .ok (.invokestatic 162, 3) := decs_at DX12_car_0 11 rfl
theorem dX12_car_23 : decode cX12_car 23 = .ok (.ifCond .ne 8, 3) := decs_at DX12_car_0 12 rfl
theorem dX12_car_26 : decode cX12_car 26 = .ok (.aload_n 0, 1) := decs_at DX12_car_0 13 rfl
theorem dX12_car_27 : decode cX12_car 27 = .ok (.invokevirtual 244, 3) := decs_at DX12_car_0 14 rfl
theorem dX12_car_30 : decode cX12_car 30 = .ok (.ireturn, 1) := decs_at DX12_car_0 15 rfl
theorem dX12_car_31 : decode cX12_car 31 = .ok (.aload_n 0, 1) := decs_at DX12_car_0 16 rfl
theorem dX12_car_32 : decode cX12_car 32 = .ok (.iconst 0, 1) := decs_at DX12_car_0 17 rfl
theorem dX12_car_33 : decode cX12_car 33 = .ok (.putfield 106, 3) := decs_at DX12_car_0 18 rfl
theorem dX12_car_36 : decode cX12_car 36 = .ok (.aload_n 0, 1) := decs_at DX12_car_0 19 rfl
theorem dX12_car_37 : decode cX12_car 37 = .ok (.getfield 13, 3) := decs_at DX12_car_0 20 rfl
theorem dX12_car_40 : decode cX12_car 40 = .ok (.bipush 32, 2) := decs_at DX12_car_0 21 rfl
theorem dX12_car_42 : decode cX12_car 42 = .ok (.iload_n 2, 1) := decs_at DX12_car_0 22 rfl
theorem dX12_car_43 : decode cX12_car 43 = .ok (.imul, 1) := decs_at DX12_car_0 23 rfl
theorem DX12_car_24 : decs cX12_car [(44, .iload_n 1, 1), (45, .iadd, 1), (46, .iconst 1, 1), (47, .isub, 1), (48, .iaload, 1), (49, .ireturn, 1)] := by unfold decs; decide +kernel
theorem dX12_car_44 : decode cX12_car 44 = .ok (.iload_n 1, 1) := decs_at DX12_car_24 0 rfl
theorem dX12_car_45 : decode cX12_car 45 = .ok (.iadd, 1) := decs_at DX12_car_24 1 rfl
theorem dX12_car_46 : decode cX12_car 46 = .ok (.iconst 1, 1) := decs_at DX12_car_24 2 rfl
theorem dX12_car_47 : decode cX12_car 47 = .ok (.isub, 1) := decs_at DX12_car_24 3 rfl
theorem dX12_car_48 : decode cX12_car 48 = .ok (.iaload, 1) := decs_at DX12_car_24 4 rfl
theorem dX12_car_49 : decode cX12_car 49 = .ok (.ireturn, 1) := decs_at DX12_car_24 5 rfl
theorem DX12_take__0 : decs cX12_take_ [(0, .aload_n 0, 1), (1, .invokevirtual 198, 3), (4, .aload_n 0, 1), (5, .bipush 90, 2), (7, .putfield 247, 3), (10, .iconst 1, 1), (11, .istore_n 2, 1), (12, .iload_n 2, 1), (13, .aload_n 0, 1), (14, .getfield 16, 3), (17, .if_icmp .gt 125, 3), (20, .aload_n 1, 1), (21, .iload_n 2, 1), (22, .iconst 1, 1), (23, .isub, 1), (24, .iaload, 1), (25, .istore_n 3, 1), (26, .aload_n 0, 1), (27, .getfield 35, 3), (30, .iload_n 2, 1), (31, .aload_n 0, 1), (32, .getfield 13, 3), (35, .iconst 0, 1), (36, .iload_n 3, 1)] := by unfold decs; decide +kernel
theorem dX12_take__0 : decode cX12_take_ 0 = .ok (.aload_n 0, 1) := decs_at DX12_take__0 0 rfl
theorem dX12_take__1 : decode cX12_take_ 1 = .ok (.invokevirtual 198, 3) := decs_at DX12_take__0 1 rfl
theorem dX12_take__4 : decode cX12_take_ 4 = .ok (.aload_n 0, 1) := decs_at DX12_take__0 2 rfl
theorem dX12_take__5 : decode cX12_take_ 5 = .ok (.bipush 90, 2) := decs_at DX12_take__0 3 rfl
theorem dX12_take__7 : decode cX12_take_ 7 = .ok (.putfield 247, 3) := decs_at DX12_take__0 4 rfl
theorem dX12_take__10 : decode cX12_take_ 10 = .ok (.iconst 1, 1) := decs_at DX12_take__0 5 rfl
theorem dX12_take__11 : decode cX12_take_ 11 = .ok (.istore_n 2, 1) := decs_at DX12_take__0 6 rfl
theorem dX12_take__12 : decode cX12_take_ 12 = .ok (.iload_n 2, 1) := decs_at DX12_take__0 7 rfl
theorem dX12_take__13 : decode cX12_take_ 13 = .ok (.aload_n 0, 1) := decs_at DX12_take__0 8 rfl
theorem dX12_take__14 : decode cX12_take_ 14 = .ok (.getfield 16, 3) := decs_at DX12_take__0 9 rfl
theorem dX12_take__17 : decode cX12_take_ 17 = .ok (.if_icmp .gt 125, 3) := decs_at DX12_take__0 10 rfl
theorem dX12_take__20 : decode cX12_take_ 20 = .ok (.aload_n 1, 1) := decs_at DX12_take__0 11 rfl
theorem dX12_take__21 : decode cX12_take_ 21 = .ok (.iload_n 2, 1) := decs_at DX12_take__0 12 rfl
theorem dX12_take__22 : decode cX12_take_ 22 = .ok (.iconst 1, 1) := decs_at DX12_take__0 13 rfl
theorem dX12_take__23 : decode cX12_take_ 23 = .ok (.isub, 1) := decs_at DX12_take__0 14 rfl
theorem dX12_take__24 : decode cX12_take_ 24 = .ok (.iaload, 1) := decs_at DX12_take__0 15 rfl
theorem dX12_take__25 : decode cX12_take_ 25 = .ok (.istore_n 3, 1) := decs_at DX12_take__0 16 rfl
theorem dX12_take__26 : decode cX12_take_ 26 = .ok (.aload_n 0, 1) := decs_at DX12_take__0 17 rfl
theorem dX12_take__27 : decode cX12_take_ 27 = .ok (.getfield 35, 3) := decs_at DX12_take__0 18 rfl
theorem dX12_take__30 : decode cX12_take_ 30 = .ok (.iload_n 2, 1) := decs_at DX12_take__0 19 rfl
theorem dX12_take__31 : decode cX12_take_ 31 = .ok (.aload_n 0, 1) := decs_at DX12_take__0 20 rfl
theorem dX12_take__32 : decode cX12_take_ 32 = .ok (.getfield 13, 3) := decs_at DX12_take__0 21 rfl
theorem dX12_take__35 : decode cX12_take_ 35 = .ok (.iconst 0, 1) := decs_at DX12_take__0 22 rfl
theorem dX12_take__36 : decode cX12_take_ 36 = .ok (.iload_n 3, 1) := decs_at DX12_take__0 23 rfl
theorem DX12_take__24 : decs cX12_take_ [(37, .iadd, 1), (38, .iaload, 1), (39, .iastore, 1), (40, .aload_n 0, 1), (41, .dup, 1), (42, .getfield 247, 3), (45, .aload_n 0, 1), (46, .getfield 13, 3), (49, .bipush 32, 2), (51, .iload_n 3, 1), (52, .iadd, 1), (53, .iaload, 1), (54, .iadd, 1), (55, .putfield 247, 3), (58, .aload_n 0, 1), (59, .getfield 38, 3), (62, .iload_n 2, 1), (63, .aload_n 0, 1), (64, .getfield 13, 3), (67, .bipush 64, 2), (69, .iload_n 3, 1), (70, .iadd, 1), (71, .iaload, 1), (72, .iastore, 1)] := by unfold decs; decide +kernel
theorem dX12_take__37 : decode cX12_take_ 37 = .ok (.iadd, 1) := decs_at DX12_take__24 0 rfl
theorem dX12_take__38 : decode cX12_take_ 38 = .ok (.iaload, 1) := decs_at DX12_take__24 1 rfl
theorem dX12_take__39 : decode cX12_take_ 39 = .ok (.iastore, 1) := decs_at DX12_take__24 2 rfl
theorem dX12_take__40 : decode cX12_take_ 40 = .ok (.aload_n 0, 1) := decs_at DX12_take__24 3 rfl
theorem dX12_take__41 : decode cX12_take_ 41 = .ok (.dup, 1) := decs_at DX12_take__24 4 rfl
theorem dX12_take__42 : decode cX12_take_ 42 = .ok (.getfield 247, 3) := decs_at DX12_take__24 5 rfl
theorem dX12_take__45 : decode cX12_take_ 45 = .ok (.aload_n 0, 1) := decs_at DX12_take__24 6 rfl
theorem dX12_take__46 : decode cX12_take_ 46 = .ok (.getfield 13, 3) := decs_at DX12_take__24 7 rfl
theorem dX12_take__49 : decode cX12_take_ 49 = .ok (.bipush 32, 2) := decs_at DX12_take__24 8 rfl
theorem dX12_take__51 : decode cX12_take_ 51 = .ok (.iload_n 3, 1) := decs_at DX12_take__24 9 rfl
theorem dX12_take__52 : decode cX12_take_ 52 = .ok (.iadd, 1) := decs_at DX12_take__24 10 rfl
theorem dX12_take__53 : decode cX12_take_ 53 = .ok (.iaload, 1) := decs_at DX12_take__24 11 rfl
theorem dX12_take__54 : decode cX12_take_ 54 = .ok (.iadd, 1) := decs_at DX12_take__24 12 rfl
theorem dX12_take__55 : decode cX12_take_ 55 = .ok (.putfield 247, 3) := decs_at DX12_take__24 13 rfl
theorem dX12_take__58 : decode cX12_take_ 58 = .ok (.aload_n 0, 1) := decs_at DX12_take__24 14 rfl
theorem dX12_take__59 : decode cX12_take_ 59 = .ok (.getfield 38, 3) := decs_at DX12_take__24 15 rfl
theorem dX12_take__62 : decode cX12_take_ 62 = .ok (.iload_n 2, 1) := decs_at DX12_take__24 16 rfl
theorem dX12_take__63 : decode cX12_take_ 63 = .ok (.aload_n 0, 1) := decs_at DX12_take__24 17 rfl
theorem dX12_take__64 : decode cX12_take_ 64 = .ok (.getfield 13, 3) := decs_at DX12_take__24 18 rfl
theorem dX12_take__67 : decode cX12_take_ 67 = .ok (.bipush 64, 2) := decs_at DX12_take__24 19 rfl
theorem dX12_take__69 : decode cX12_take_ 69 = .ok (.iload_n 3, 1) := decs_at DX12_take__24 20 rfl
theorem dX12_take__70 : decode cX12_take_ 70 = .ok (.iadd, 1) := decs_at DX12_take__24 21 rfl
theorem dX12_take__71 : decode cX12_take_ 71 = .ok (.iaload, 1) := decs_at DX12_take__24 22 rfl
theorem dX12_take__72 : decode cX12_take_ 72 = .ok (.iastore, 1) := decs_at DX12_take__24 23 rfl
theorem DX12_take__48 : decs cX12_take_ [(73, .aload_n 0, 1), (74, .getfield 41, 3), (77, .iload_n 2, 1), (78, .aload_n 0, 1), (79, .getfield 13, 3), (82, .bipush 96, 2), (84, .iload_n 3, 1), (85, .iadd, 1), (86, .iaload, 1), (87, .iastore, 1), (88, .aload_n 0, 1), (89, .getfield 44, 3), (92, .iload_n 2, 1), (93, .aload_n 0, 1), (94, .getfield 13, 3), (97, .sipush 128, 3), (100, .iload_n 3, 1), (101, .iadd, 1), (102, .iaload, 1), (103, .iastore, 1), (104, .aload_n 0, 1), (105, .getfield 47, 3), (108, .iload_n 2, 1), (109, .aload_n 0, 1)] := by unfold decs; decide +kernel
theorem dX12_take__73 : decode cX12_take_ 73 = .ok (.aload_n 0, 1) := decs_at DX12_take__48 0 rfl
theorem dX12_take__74 : decode cX12_take_ 74 = .ok (.getfield 41, 3) := decs_at DX12_take__48 1 rfl
theorem dX12_take__77 : decode cX12_take_ 77 = .ok (.iload_n 2, 1) := decs_at DX12_take__48 2 rfl
theorem dX12_take__78 : decode cX12_take_ 78 = .ok (.aload_n 0, 1) := decs_at DX12_take__48 3 rfl
theorem dX12_take__79 : decode cX12_take_ 79 = .ok (.getfield 13, 3) := decs_at DX12_take__48 4 rfl
theorem dX12_take__82 : decode cX12_take_ 82 = .ok (.bipush 96, 2) := decs_at DX12_take__48 5 rfl
theorem dX12_take__84 : decode cX12_take_ 84 = .ok (.iload_n 3, 1) := decs_at DX12_take__48 6 rfl
theorem dX12_take__85 : decode cX12_take_ 85 = .ok (.iadd, 1) := decs_at DX12_take__48 7 rfl
theorem dX12_take__86 : decode cX12_take_ 86 = .ok (.iaload, 1) := decs_at DX12_take__48 8 rfl
theorem dX12_take__87 : decode cX12_take_ 87 = .ok (.iastore, 1) := decs_at DX12_take__48 9 rfl
theorem dX12_take__88 : decode cX12_take_ 88 = .ok (.aload_n 0, 1) := decs_at DX12_take__48 10 rfl
theorem dX12_take__89 : decode cX12_take_ 89 = .ok (.getfield 44, 3) := decs_at DX12_take__48 11 rfl
theorem dX12_take__92 : decode cX12_take_ 92 = .ok (.iload_n 2, 1) := decs_at DX12_take__48 12 rfl
theorem dX12_take__93 : decode cX12_take_ 93 = .ok (.aload_n 0, 1) := decs_at DX12_take__48 13 rfl
theorem dX12_take__94 : decode cX12_take_ 94 = .ok (.getfield 13, 3) := decs_at DX12_take__48 14 rfl
theorem dX12_take__97 : decode cX12_take_ 97 = .ok (.sipush 128, 3) := decs_at DX12_take__48 15 rfl
theorem dX12_take__100 : decode cX12_take_ 100 = .ok (.iload_n 3, 1) := decs_at DX12_take__48 16 rfl
theorem dX12_take__101 : decode cX12_take_ 101 = .ok (.iadd, 1) := decs_at DX12_take__48 17 rfl
theorem dX12_take__102 : decode cX12_take_ 102 = .ok (.iaload, 1) := decs_at DX12_take__48 18 rfl
theorem dX12_take__103 : decode cX12_take_ 103 = .ok (.iastore, 1) := decs_at DX12_take__48 19 rfl
theorem dX12_take__104 : decode cX12_take_ 104 = .ok (.aload_n 0, 1) := decs_at DX12_take__48 20 rfl
theorem dX12_take__105 : decode cX12_take_ 105 = .ok (.getfield 47, 3) := decs_at DX12_take__48 21 rfl
theorem dX12_take__108 : decode cX12_take_ 108 = .ok (.iload_n 2, 1) := decs_at DX12_take__48 22 rfl
theorem dX12_take__109 : decode cX12_take_ 109 = .ok (.aload_n 0, 1) := decs_at DX12_take__48 23 rfl
theorem DX12_take__72 : decs cX12_take_ [(110, .getfield 13, 3), (113, .sipush 160, 3), (116, .iload_n 3, 1), (117, .iadd, 1), (118, .iaload, 1), (119, .iastore, 1), (120, .aload_n 0, 1), (121, .getfield 50, 3), (124, .iload_n 2, 1), (125, .aload_n 0, 1), (126, .getfield 13, 3), (129, .sipush 192, 3), (132, .iload_n 3, 1), (133, .iadd, 1), (134, .iaload, 1), (135, .iastore, 1), (136, .iinc 2 1, 3), (139, .goto (-127), 3), (142, .aload_n 0, 1), (143, .sipush 601, 3), (146, .putfield 250, 3), (149, .aload_n 0, 1), (150, .sipush 601, 3), (153, .putfield 253, 3)] := by unfold decs; decide +kernel
theorem dX12_take__110 : decode cX12_take_ 110 = .ok (.getfield 13, 3) := decs_at DX12_take__72 0 rfl
theorem dX12_take__113 : decode cX12_take_ 113 = .ok (.sipush 160, 3) := decs_at DX12_take__72 1 rfl
theorem dX12_take__116 : decode cX12_take_ 116 = .ok (.iload_n 3, 1) := decs_at DX12_take__72 2 rfl
theorem dX12_take__117 : decode cX12_take_ 117 = .ok (.iadd, 1) := decs_at DX12_take__72 3 rfl
theorem dX12_take__118 : decode cX12_take_ 118 = .ok (.iaload, 1) := decs_at DX12_take__72 4 rfl
theorem dX12_take__119 : decode cX12_take_ 119 = .ok (.iastore, 1) := decs_at DX12_take__72 5 rfl
theorem dX12_take__120 : decode cX12_take_ 120 = .ok (.aload_n 0, 1) := decs_at DX12_take__72 6 rfl
theorem dX12_take__121 : decode cX12_take_ 121 = .ok (.getfield 50, 3) := decs_at DX12_take__72 7 rfl
theorem dX12_take__124 : decode cX12_take_ 124 = .ok (.iload_n 2, 1) := decs_at DX12_take__72 8 rfl
theorem dX12_take__125 : decode cX12_take_ 125 = .ok (.aload_n 0, 1) := decs_at DX12_take__72 9 rfl
theorem dX12_take__126 : decode cX12_take_ 126 = .ok (.getfield 13, 3) := decs_at DX12_take__72 10 rfl
theorem dX12_take__129 : decode cX12_take_ 129 = .ok (.sipush 192, 3) := decs_at DX12_take__72 11 rfl
theorem dX12_take__132 : decode cX12_take_ 132 = .ok (.iload_n 3, 1) := decs_at DX12_take__72 12 rfl
theorem dX12_take__133 : decode cX12_take_ 133 = .ok (.iadd, 1) := decs_at DX12_take__72 13 rfl
theorem dX12_take__134 : decode cX12_take_ 134 = .ok (.iaload, 1) := decs_at DX12_take__72 14 rfl
theorem dX12_take__135 : decode cX12_take_ 135 = .ok (.iastore, 1) := decs_at DX12_take__72 15 rfl
theorem dX12_take__136 : decode cX12_take_ 136 = .ok (.iinc 2 1, 3) := decs_at DX12_take__72 16 rfl
theorem dX12_take__139 : decode cX12_take_ 139 = .ok (.goto (-127), 3) := decs_at DX12_take__72 17 rfl
theorem dX12_take__142 : decode cX12_take_ 142 = .ok (.aload_n 0, 1) := decs_at DX12_take__72 18 rfl
theorem dX12_take__143 : decode cX12_take_ 143 = .ok (.sipush 601, 3) := decs_at DX12_take__72 19 rfl
theorem dX12_take__146 : decode cX12_take_ 146 = .ok (.putfield 250, 3) := decs_at DX12_take__72 20 rfl
theorem dX12_take__149 : decode cX12_take_ 149 = .ok (.aload_n 0, 1) := decs_at DX12_take__72 21 rfl
theorem dX12_take__150 : decode cX12_take_ 150 = .ok (.sipush 601, 3) := decs_at DX12_take__72 22 rfl
theorem dX12_take__153 : decode cX12_take_ 153 = .ok (.putfield 253, 3) := decs_at DX12_take__72 23 rfl
theorem DX12_take__96 : decs cX12_take_ [(156, .aload_n 0, 1), (157, .iconst 0, 1), (158, .putfield 256, 3), (161, .return_, 1)] := by unfold decs; decide +kernel
theorem dX12_take__156 : decode cX12_take_ 156 = .ok (.aload_n 0, 1) := decs_at DX12_take__96 0 rfl
theorem dX12_take__157 : decode cX12_take_ 157 = .ok (.iconst 0, 1) := decs_at DX12_take__96 1 rfl
theorem dX12_take__158 : decode cX12_take_ 158 = .ok (.putfield 256, 3) := decs_at DX12_take__96 2 rfl
theorem dX12_take__161 : decode cX12_take_ 161 = .ok (.return_, 1) := decs_at DX12_take__96 3 rfl
theorem DX12_begin_0 : decs cX12_begin [(0, .iconst 0, 1), (1, .istore_n 1, 1), (2, .iload_n 1, 1), (3, .aload_n 0, 1), (4, .getfield 16, 3), (7, .if_icmp .gt 36, 3), (10, .aload_n 0, 1), (11, .getfield 53, 3), (14, .iload_n 1, 1), (15, .aload_n 0, 1), (16, .getfield 20, 3), (19, .iastore, 1), (20, .aload_n 0, 1), (21, .getfield 56, 3), (24, .iload_n 1, 1), (25, .aload_n 0, 1), (26, .getfield 20, 3), (29, .iastore, 1), (30, .aload_n 0, 1), (31, .getfield 59, 3), (34, .iload_n 1, 1), (35, .iconst 0, 1), (36, .iastore, 1), (37, .iinc 1 1, 3)] := by unfold decs; decide +kernel
theorem dX12_begin_0 : decode cX12_begin 0 = .ok (.iconst 0, 1) := decs_at DX12_begin_0 0 rfl
theorem dX12_begin_1 : decode cX12_begin 1 = .ok (.istore_n 1, 1) := decs_at DX12_begin_0 1 rfl
theorem dX12_begin_2 : decode cX12_begin 2 = .ok (.iload_n 1, 1) := decs_at DX12_begin_0 2 rfl
theorem dX12_begin_3 : decode cX12_begin 3 = .ok (.aload_n 0, 1) := decs_at DX12_begin_0 3 rfl
theorem dX12_begin_4 : decode cX12_begin 4 = .ok (.getfield 16, 3) := decs_at DX12_begin_0 4 rfl
theorem dX12_begin_7 : decode cX12_begin 7 = .ok (.if_icmp .gt 36, 3) := decs_at DX12_begin_0 5 rfl
theorem dX12_begin_10 : decode cX12_begin 10 = .ok (.aload_n 0, 1) := decs_at DX12_begin_0 6 rfl
theorem dX12_begin_11 : decode cX12_begin 11 = .ok (.getfield 53, 3) := decs_at DX12_begin_0 7 rfl
theorem dX12_begin_14 : decode cX12_begin 14 = .ok (.iload_n 1, 1) := decs_at DX12_begin_0 8 rfl
theorem dX12_begin_15 : decode cX12_begin 15 = .ok (.aload_n 0, 1) := decs_at DX12_begin_0 9 rfl
theorem dX12_begin_16 : decode cX12_begin 16 = .ok (.getfield 20, 3) := decs_at DX12_begin_0 10 rfl
theorem dX12_begin_19 : decode cX12_begin 19 = .ok (.iastore, 1) := decs_at DX12_begin_0 11 rfl
theorem dX12_begin_20 : decode cX12_begin 20 = .ok (.aload_n 0, 1) := decs_at DX12_begin_0 12 rfl
theorem dX12_begin_21 : decode cX12_begin 21 = .ok (.getfield 56, 3) := decs_at DX12_begin_0 13 rfl
theorem dX12_begin_24 : decode cX12_begin 24 = .ok (.iload_n 1, 1) := decs_at DX12_begin_0 14 rfl
theorem dX12_begin_25 : decode cX12_begin 25 = .ok (.aload_n 0, 1) := decs_at DX12_begin_0 15 rfl
theorem dX12_begin_26 : decode cX12_begin 26 = .ok (.getfield 20, 3) := decs_at DX12_begin_0 16 rfl
theorem dX12_begin_29 : decode cX12_begin 29 = .ok (.iastore, 1) := decs_at DX12_begin_0 17 rfl
theorem dX12_begin_30 : decode cX12_begin 30 = .ok (.aload_n 0, 1) := decs_at DX12_begin_0 18 rfl
theorem dX12_begin_31 : decode cX12_begin 31 = .ok (.getfield 59, 3) := decs_at DX12_begin_0 19 rfl
theorem dX12_begin_34 : decode cX12_begin 34 = .ok (.iload_n 1, 1) := decs_at DX12_begin_0 20 rfl
theorem dX12_begin_35 : decode cX12_begin 35 = .ok (.iconst 0, 1) := decs_at DX12_begin_0 21 rfl
theorem dX12_begin_36 : decode cX12_begin 36 = .ok (.iastore, 1) := decs_at DX12_begin_0 22 rfl
theorem dX12_begin_37 : decode cX12_begin 37 = .ok (.iinc 1 1, 3) := decs_at DX12_begin_0 23 rfl
theorem DX12_begin_24 : decs cX12_begin [(40, .goto (-38), 3), (43, .return_, 1)] := by unfold decs; decide +kernel
theorem dX12_begin_40 : decode cX12_begin 40 = .ok (.goto (-38), 3) := decs_at DX12_begin_24 0 rfl
theorem dX12_begin_43 : decode cX12_begin 43 = .ok (.return_, 1) := decs_at DX12_begin_24 1 rfl
theorem DX12_stepAt_0 : decs cX12_stepAt [(0, .iload_n 1, 1), (1, .istore_n 2, 1), (2, .iconst 0, 1), (3, .istore_n 3, 1), (4, .iload_n 3, 1), (5, .aload_n 0, 1), (6, .getfield 238, 3), (9, .if_icmp .ge 30, 3), (12, .iload_n 2, 1), (13, .aload_n 0, 1), (14, .getfield 32, 3), (17, .iload_n 3, 1), (18, .iaload, 1), (19, .if_icmp .gt 5, 3), (22, .iload_n 3, 1), (23, .ireturn, 1), (24, .iload_n 2, 1), (25, .aload_n 0, 1), (26, .getfield 32, 3), (29, .iload_n 3, 1), (30, .iaload, 1), (31, .isub, 1), (32, .istore_n 2, 1), (33, .iinc 3 1, 3)] := by unfold decs; decide +kernel
theorem dX12_stepAt_0 : decode cX12_stepAt 0 = .ok (.iload_n 1, 1) := decs_at DX12_stepAt_0 0 rfl
theorem dX12_stepAt_1 : decode cX12_stepAt 1 = .ok (.istore_n 2, 1) := decs_at DX12_stepAt_0 1 rfl
theorem dX12_stepAt_2 : decode cX12_stepAt 2 = .ok (.iconst 0, 1) := decs_at DX12_stepAt_0 2 rfl
theorem dX12_stepAt_3 : decode cX12_stepAt 3 = .ok (.istore_n 3, 1) := decs_at DX12_stepAt_0 3 rfl
theorem dX12_stepAt_4 : decode cX12_stepAt 4 = .ok (.iload_n 3, 1) := decs_at DX12_stepAt_0 4 rfl
theorem dX12_stepAt_5 : decode cX12_stepAt 5 = .ok (.aload_n 0, 1) := decs_at DX12_stepAt_0 5 rfl
theorem dX12_stepAt_6 : decode cX12_stepAt 6 = .ok (.getfield 238, 3) := decs_at DX12_stepAt_0 6 rfl
theorem dX12_stepAt_9 : decode cX12_stepAt 9 = .ok (.if_icmp .ge 30, 3) := decs_at DX12_stepAt_0 7 rfl
theorem dX12_stepAt_12 : decode cX12_stepAt 12 = .ok (.iload_n 2, 1) := decs_at DX12_stepAt_0 8 rfl
theorem dX12_stepAt_13 : decode cX12_stepAt 13 = .ok (.aload_n 0, 1) := decs_at DX12_stepAt_0 9 rfl
theorem dX12_stepAt_14 : decode cX12_stepAt 14 = .ok (.getfield 32, 3) := decs_at DX12_stepAt_0 10 rfl
theorem dX12_stepAt_17 : decode cX12_stepAt 17 = .ok (.iload_n 3, 1) := decs_at DX12_stepAt_0 11 rfl
theorem dX12_stepAt_18 : decode cX12_stepAt 18 = .ok (.iaload, 1) := decs_at DX12_stepAt_0 12 rfl
theorem dX12_stepAt_19 : decode cX12_stepAt 19 = .ok (.if_icmp .gt 5, 3) := decs_at DX12_stepAt_0 13 rfl
theorem dX12_stepAt_22 : decode cX12_stepAt 22 = .ok (.iload_n 3, 1) := decs_at DX12_stepAt_0 14 rfl
theorem dX12_stepAt_23 : decode cX12_stepAt 23 = .ok (.ireturn, 1) := decs_at DX12_stepAt_0 15 rfl
theorem dX12_stepAt_24 : decode cX12_stepAt 24 = .ok (.iload_n 2, 1) := decs_at DX12_stepAt_0 16 rfl
theorem dX12_stepAt_25 : decode cX12_stepAt 25 = .ok (.aload_n 0, 1) := decs_at DX12_stepAt_0 17 rfl
theorem dX12_stepAt_26 : decode cX12_stepAt 26 = .ok (.getfield 32, 3) := decs_at DX12_stepAt_0 18 rfl
theorem dX12_stepAt_29 : decode cX12_stepAt 29 = .ok (.iload_n 3, 1) := decs_at DX12_stepAt_0 19 rfl
theorem dX12_stepAt_30 : decode cX12_stepAt 30 = .ok (.iaload, 1) := decs_at DX12_stepAt_0 20 rfl
theorem dX12_stepAt_31 : decode cX12_stepAt 31 = .ok (.isub, 1) := decs_at DX12_stepAt_0 21 rfl
theorem dX12_stepAt_32 : decode cX12_stepAt 32 = .ok (.istore_n 2, 1) := decs_at DX12_stepAt_0 22 rfl
theorem dX12_stepAt_33 : decode cX12_stepAt 33 = .ok (.iinc 3 1, 3) := decs_at DX12_stepAt_0 23 rfl
theorem DX12_stepAt_24 : decs cX12_stepAt [(36, .goto (-32), 3), (39, .aload_n 0, 1), (40, .getfield 238, 3), (43, .iconst 1, 1), (44, .isub, 1), (45, .ireturn, 1)] := by unfold decs; decide +kernel
theorem dX12_stepAt_36 : decode cX12_stepAt 36 = .ok (.goto (-32), 3) := decs_at DX12_stepAt_24 0 rfl
theorem dX12_stepAt_39 : decode cX12_stepAt 39 = .ok (.aload_n 0, 1) := decs_at DX12_stepAt_24 1 rfl
theorem dX12_stepAt_40 : decode cX12_stepAt 40 = .ok (.getfield 238, 3) := decs_at DX12_stepAt_24 2 rfl
theorem dX12_stepAt_43 : decode cX12_stepAt 43 = .ok (.iconst 1, 1) := decs_at DX12_stepAt_24 3 rfl
theorem dX12_stepAt_44 : decode cX12_stepAt 44 = .ok (.isub, 1) := decs_at DX12_stepAt_24 4 rfl
theorem dX12_stepAt_45 : decode cX12_stepAt 45 = .ok (.ireturn, 1) := decs_at DX12_stepAt_24 5 rfl
theorem DX12_act_0 : decs cX12_act [(0, .iload_n 2, 1), (1, .ifCond .ne 58, 3), (4, .aload_n 0, 1), (5, .getfield 53, 3), (8, .iload_n 1, 1), (9, .iaload, 1), (10, .aload_n 0, 1), (11, .getfield 20, 3), (14, .if_icmp .ge 45, 3), (17, .aload_n 0, 1), (18, .getfield 53, 3), (21, .iload_n 1, 1), (22, .aload_n 0, 1), (23, .getfield 53, 3), (26, .iload_n 1, 1), (27, .iaload, 1), (28, .aload_n 0, 1), (29, .getfield 23, 3), (32, .iadd, 1), (33, .aload_n 0, 1), (34, .getfield 20, 3), (37, .if_icmp .ge 17, 3), (40, .aload_n 0, 1), (41, .getfield 53, 3)] := by unfold decs; decide +kernel
theorem dX12_act_0 : decode cX12_act 0 = .ok (.iload_n 2, 1) := decs_at DX12_act_0 0 rfl
theorem dX12_act_1 : decode cX12_act 1 = .ok (.ifCond .ne 58, 3) := decs_at DX12_act_0 1 rfl
theorem dX12_act_4 : decode cX12_act 4 = .ok (.aload_n 0, 1) := decs_at DX12_act_0 2 rfl
theorem dX12_act_5 : decode cX12_act 5 = .ok (.getfield 53, 3) := decs_at DX12_act_0 3 rfl
theorem dX12_act_8 : decode cX12_act 8 = .ok (.iload_n 1, 1) := decs_at DX12_act_0 4 rfl
theorem dX12_act_9 : decode cX12_act 9 = .ok (.iaload, 1) := decs_at DX12_act_0 5 rfl
theorem dX12_act_10 : decode cX12_act 10 = .ok (.aload_n 0, 1) := decs_at DX12_act_0 6 rfl
theorem dX12_act_11 : decode cX12_act 11 = .ok (.getfield 20, 3) := decs_at DX12_act_0 7 rfl
theorem dX12_act_14 : decode cX12_act 14 = .ok (.if_icmp .ge 45, 3) := decs_at DX12_act_0 8 rfl
theorem dX12_act_17 : decode cX12_act 17 = .ok (.aload_n 0, 1) := decs_at DX12_act_0 9 rfl
theorem dX12_act_18 : decode cX12_act 18 = .ok (.getfield 53, 3) := decs_at DX12_act_0 10 rfl
theorem dX12_act_21 : decode cX12_act 21 = .ok (.iload_n 1, 1) := decs_at DX12_act_0 11 rfl
theorem dX12_act_22 : decode cX12_act 22 = .ok (.aload_n 0, 1) := decs_at DX12_act_0 12 rfl
theorem dX12_act_23 : decode cX12_act 23 = .ok (.getfield 53, 3) := decs_at DX12_act_0 13 rfl
theorem dX12_act_26 : decode cX12_act 26 = .ok (.iload_n 1, 1) := decs_at DX12_act_0 14 rfl
theorem dX12_act_27 : decode cX12_act 27 = .ok (.iaload, 1) := decs_at DX12_act_0 15 rfl
theorem dX12_act_28 : decode cX12_act 28 = .ok (.aload_n 0, 1) := decs_at DX12_act_0 16 rfl
theorem dX12_act_29 : decode cX12_act 29 = .ok (.getfield 23, 3) := decs_at DX12_act_0 17 rfl
theorem dX12_act_32 : decode cX12_act 32 = .ok (.iadd, 1) := decs_at DX12_act_0 18 rfl
theorem dX12_act_33 : decode cX12_act 33 = .ok (.aload_n 0, 1) := decs_at DX12_act_0 19 rfl
theorem dX12_act_34 : decode cX12_act 34 = .ok (.getfield 20, 3) := decs_at DX12_act_0 20 rfl
theorem dX12_act_37 : decode cX12_act 37 = .ok (.if_icmp .ge 17, 3) := decs_at DX12_act_0 21 rfl
theorem dX12_act_40 : decode cX12_act 40 = .ok (.aload_n 0, 1) := decs_at DX12_act_0 22 rfl
theorem dX12_act_41 : decode cX12_act 41 = .ok (.getfield 53, 3) := decs_at DX12_act_0 23 rfl
theorem DX12_act_24 : decs cX12_act [(44, .iload_n 1, 1), (45, .iaload, 1), (46, .aload_n 0, 1), (47, .getfield 23, 3), (50, .iadd, 1), (51, .goto 7, 3), (54, .aload_n 0, 1), (55, .getfield 20, 3), (58, .iastore, 1), (59, .iload_n 2, 1), (60, .iconst 2, 1), (61, .if_icmp .ne 31, 3), (64, .aload_n 0, 1), (65, .getfield 53, 3), (68, .iload_n 1, 1), (69, .aload_n 0, 1), (70, .getfield 53, 3), (73, .iload_n 1, 1), (74, .iaload, 1), (75, .iload_n 3, 1), (76, .if_icmp .le 14, 3), (79, .aload_n 0, 1), (80, .getfield 53, 3), (83, .iload_n 1, 1)] := by unfold decs; decide +kernel
theorem dX12_act_44 : decode cX12_act 44 = .ok (.iload_n 1, 1) := decs_at DX12_act_24 0 rfl
theorem dX12_act_45 : decode cX12_act 45 = .ok (.iaload, 1) := decs_at DX12_act_24 1 rfl
theorem dX12_act_46 : decode cX12_act 46 = .ok (.aload_n 0, 1) := decs_at DX12_act_24 2 rfl
theorem dX12_act_47 : decode cX12_act 47 = .ok (.getfield 23, 3) := decs_at DX12_act_24 3 rfl
theorem dX12_act_50 : decode cX12_act 50 = .ok (.iadd, 1) := decs_at DX12_act_24 4 rfl
theorem dX12_act_51 : decode cX12_act 51 = .ok (.goto 7, 3) := decs_at DX12_act_24 5 rfl
theorem dX12_act_54 : decode cX12_act 54 = .ok (.aload_n 0, 1) := decs_at DX12_act_24 6 rfl
theorem dX12_act_55 : decode cX12_act 55 = .ok (.getfield 20, 3) := decs_at DX12_act_24 7 rfl
theorem dX12_act_58 : decode cX12_act 58 = .ok (.iastore, 1) := decs_at DX12_act_24 8 rfl
theorem dX12_act_59 : decode cX12_act 59 = .ok (.iload_n 2, 1) := decs_at DX12_act_24 9 rfl
theorem dX12_act_60 : decode cX12_act 60 = .ok (.iconst 2, 1) := decs_at DX12_act_24 10 rfl
theorem dX12_act_61 : decode cX12_act 61 = .ok (.if_icmp .ne 31, 3) := decs_at DX12_act_24 11 rfl
theorem dX12_act_64 : decode cX12_act 64 = .ok (.aload_n 0, 1) := decs_at DX12_act_24 12 rfl
theorem dX12_act_65 : decode cX12_act 65 = .ok (.getfield 53, 3) := decs_at DX12_act_24 13 rfl
theorem dX12_act_68 : decode cX12_act 68 = .ok (.iload_n 1, 1) := decs_at DX12_act_24 14 rfl
theorem dX12_act_69 : decode cX12_act 69 = .ok (.aload_n 0, 1) := decs_at DX12_act_24 15 rfl
theorem dX12_act_70 : decode cX12_act 70 = .ok (.getfield 53, 3) := decs_at DX12_act_24 16 rfl
theorem dX12_act_73 : decode cX12_act 73 = .ok (.iload_n 1, 1) := decs_at DX12_act_24 17 rfl
theorem dX12_act_74 : decode cX12_act 74 = .ok (.iaload, 1) := decs_at DX12_act_24 18 rfl
theorem dX12_act_75 : decode cX12_act 75 = .ok (.iload_n 3, 1) := decs_at DX12_act_24 19 rfl
theorem dX12_act_76 : decode cX12_act 76 = .ok (.if_icmp .le 14, 3) := decs_at DX12_act_24 20 rfl
theorem dX12_act_79 : decode cX12_act 79 = .ok (.aload_n 0, 1) := decs_at DX12_act_24 21 rfl
theorem dX12_act_80 : decode cX12_act 80 = .ok (.getfield 53, 3) := decs_at DX12_act_24 22 rfl
theorem dX12_act_83 : decode cX12_act 83 = .ok (.iload_n 1, 1) := decs_at DX12_act_24 23 rfl
theorem DX12_act_48 : decs cX12_act [(84, .iaload, 1), (85, .iload_n 3, 1), (86, .isub, 1), (87, .goto 4, 3), (90, .iconst 0, 1), (91, .iastore, 1), (92, .iload_n 2, 1), (93, .iconst 3, 1), (94, .if_icmp .ne 10, 3), (97, .aload_n 0, 1), (98, .getfield 53, 3), (101, .iload_n 1, 1), (102, .iconst 0, 1), (103, .iastore, 1), (104, .return_, 1)] := by unfold decs; decide +kernel
theorem dX12_act_84 : decode cX12_act 84 = .ok (.iaload, 1) := decs_at DX12_act_48 0 rfl
theorem dX12_act_85 : decode cX12_act 85 = .ok (.iload_n 3, 1) := decs_at DX12_act_48 1 rfl
theorem dX12_act_86 : decode cX12_act 86 = .ok (.isub, 1) := decs_at DX12_act_48 2 rfl
theorem dX12_act_87 : decode cX12_act 87 = .ok (.goto 4, 3) := decs_at DX12_act_48 3 rfl
theorem dX12_act_90 : decode cX12_act 90 = .ok (.iconst 0, 1) := decs_at DX12_act_48 4 rfl
theorem dX12_act_91 : decode cX12_act 91 = .ok (.iastore, 1) := decs_at DX12_act_48 5 rfl
theorem dX12_act_92 : decode cX12_act 92 = .ok (.iload_n 2, 1) := decs_at DX12_act_48 6 rfl
theorem dX12_act_93 : decode cX12_act 93 = .ok (.iconst 3, 1) := decs_at DX12_act_48 7 rfl
theorem dX12_act_94 : decode cX12_act 94 = .ok (.if_icmp .ne 10, 3) := decs_at DX12_act_48 8 rfl
theorem dX12_act_97 : decode cX12_act 97 = .ok (.aload_n 0, 1) := decs_at DX12_act_48 9 rfl
theorem dX12_act_98 : decode cX12_act 98 = .ok (.getfield 53, 3) := decs_at DX12_act_48 10 rfl
theorem dX12_act_101 : decode cX12_act 101 = .ok (.iload_n 1, 1) := decs_at DX12_act_48 11 rfl
theorem dX12_act_102 : decode cX12_act 102 = .ok (.iconst 0, 1) := decs_at DX12_act_48 12 rfl
theorem dX12_act_103 : decode cX12_act 103 = .ok (.iastore, 1) := decs_at DX12_act_48 13 rfl
theorem dX12_act_104 : decode cX12_act 104 = .ok (.return_, 1) := decs_at DX12_act_48 14 rfl
theorem DX12_sense_0 : decs cX12_sense [(0, .iload_n 0, 1), (1, .ifCond .ne 8, 3), (4, .bipush 20, 2), (6, .goto 15, 3), (9, .iload_n 0, 1), (10, .iconst 1, 1), (11, .if_icmp .ne 8, 3), (14, .bipush 10, 2), (16, .goto 5, 3), (19, .bipush 30, 2), (21, .ireturn, 1)] := by unfold decs; decide +kernel
theorem dX12_sense_0 : decode cX12_sense 0 = .ok (.iload_n 0, 1) := decs_at DX12_sense_0 0 rfl
theorem dX12_sense_1 : decode cX12_sense 1 = .ok (.ifCond .ne 8, 3) := decs_at DX12_sense_0 1 rfl
theorem dX12_sense_4 : decode cX12_sense 4 = .ok (.bipush 20, 2) := decs_at DX12_sense_0 2 rfl
theorem dX12_sense_6 : decode cX12_sense 6 = .ok (.goto 15, 3) := decs_at DX12_sense_0 3 rfl
theorem dX12_sense_9 : decode cX12_sense 9 = .ok (.iload_n 0, 1) := decs_at DX12_sense_0 4 rfl
theorem dX12_sense_10 : decode cX12_sense 10 = .ok (.iconst 1, 1) := decs_at DX12_sense_0 5 rfl
theorem dX12_sense_11 : decode cX12_sense 11 = .ok (.if_icmp .ne 8, 3) := decs_at DX12_sense_0 6 rfl
theorem dX12_sense_14 : decode cX12_sense 14 = .ok (.bipush 10, 2) := decs_at DX12_sense_0 7 rfl
theorem dX12_sense_16 : decode cX12_sense 16 = .ok (.goto 5, 3) := decs_at DX12_sense_0 8 rfl
theorem dX12_sense_19 : decode cX12_sense 19 = .ok (.bipush 30, 2) := decs_at DX12_sense_0 9 rfl
theorem dX12_sense_21 : decode cX12_sense 21 = .ok (.ireturn, 1) := decs_at DX12_sense_0 10 rfl
theorem DX12_rate_0 : decs cX12_rate [(0, .iload_n 0, 1), (1, .ifCond .ne 8, 3), (4, .bipush 20, 2), (6, .goto 15, 3), (9, .iload_n 0, 1), (10, .iconst 1, 1), (11, .if_icmp .ne 8, 3), (14, .bipush 30, 2), (16, .goto 5, 3), (19, .bipush 12, 2), (21, .ireturn, 1)] := by unfold decs; decide +kernel
theorem dX12_rate_0 : decode cX12_rate 0 = .ok (.iload_n 0, 1) := decs_at DX12_rate_0 0 rfl
theorem dX12_rate_1 : decode cX12_rate 1 = .ok (.ifCond .ne 8, 3) := decs_at DX12_rate_0 1 rfl
theorem dX12_rate_4 : decode cX12_rate 4 = .ok (.bipush 20, 2) := decs_at DX12_rate_0 2 rfl
theorem dX12_rate_6 : decode cX12_rate 6 = .ok (.goto 15, 3) := decs_at DX12_rate_0 3 rfl
theorem dX12_rate_9 : decode cX12_rate 9 = .ok (.iload_n 0, 1) := decs_at DX12_rate_0 4 rfl
theorem dX12_rate_10 : decode cX12_rate 10 = .ok (.iconst 1, 1) := decs_at DX12_rate_0 5 rfl
theorem dX12_rate_11 : decode cX12_rate 11 = .ok (.if_icmp .ne 8, 3) := decs_at DX12_rate_0 6 rfl
theorem dX12_rate_14 : decode cX12_rate 14 = .ok (.bipush 30, 2) := decs_at DX12_rate_0 7 rfl
theorem dX12_rate_16 : decode cX12_rate 16 = .ok (.goto 5, 3) := decs_at DX12_rate_0 8 rfl
theorem dX12_rate_19 : decode cX12_rate 19 = .ok (.bipush 12, 2) := decs_at DX12_rate_0 9 rfl
theorem dX12_rate_21 : decode cX12_rate 21 = .ok (.ireturn, 1) := decs_at DX12_rate_0 10 rfl
theorem DX12_ease_0 : decs cX12_ease [(0, .iload_n 0, 1), (1, .ifCond .ne 8, 3), (4, .bipush 30, 2), (6, .goto 15, 3), (9, .iload_n 0, 1), (10, .iconst 1, 1), (11, .if_icmp .ne 8, 3), (14, .bipush 40, 2), (16, .goto 5, 3), (19, .bipush 12, 2), (21, .ireturn, 1)] := by unfold decs; decide +kernel
theorem dX12_ease_0 : decode cX12_ease 0 = .ok (.iload_n 0, 1) := decs_at DX12_ease_0 0 rfl
theorem dX12_ease_1 : decode cX12_ease 1 = .ok (.ifCond .ne 8, 3) := decs_at DX12_ease_0 1 rfl
theorem dX12_ease_4 : decode cX12_ease 4 = .ok (.bipush 30, 2) := decs_at DX12_ease_0 2 rfl
theorem dX12_ease_6 : decode cX12_ease 6 = .ok (.goto 15, 3) := decs_at DX12_ease_0 3 rfl
theorem dX12_ease_9 : decode cX12_ease 9 = .ok (.iload_n 0, 1) := decs_at DX12_ease_0 4 rfl
theorem dX12_ease_10 : decode cX12_ease 10 = .ok (.iconst 1, 1) := decs_at DX12_ease_0 5 rfl
theorem dX12_ease_11 : decode cX12_ease 11 = .ok (.if_icmp .ne 8, 3) := decs_at DX12_ease_0 6 rfl
theorem dX12_ease_14 : decode cX12_ease 14 = .ok (.bipush 40, 2) := decs_at DX12_ease_0 7 rfl
theorem dX12_ease_16 : decode cX12_ease 16 = .ok (.goto 5, 3) := decs_at DX12_ease_0 8 rfl
theorem dX12_ease_19 : decode cX12_ease 19 = .ok (.bipush 12, 2) := decs_at DX12_ease_0 9 rfl
theorem dX12_ease_21 : decode cX12_ease 21 = .ok (.ireturn, 1) := decs_at DX12_ease_0 10 rfl
theorem DX12_valve_0 : decs cX12_valve [(0, .aload_n 0, 1), (1, .getfield 53, 3), (4, .iload_n 1, 1), (5, .iaload, 1), (6, .aload_n 0, 1), (7, .getfield 56, 3), (10, .iload_n 1, 1), (11, .iaload, 1), (12, .isub, 1), (13, .istore_n 2, 1), (14, .aload_n 0, 1), (15, .getfield 35, 3), (18, .iload_n 1, 1), (19, .iaload, 1), (20, .istore_n 3, 1), (21, .iload_n 2, 1), (22, .iload_n 3, 1), (23, .invokestatic 259, 3), (26, .ineg, 1), (27, .if_icmp .ge 123, 3), (30, .aload_n 0, 1), (31, .getfield 50, 3), (34, .iload_n 1, 1), (35, .iaload, 1)] := by unfold decs; decide +kernel
theorem dX12_valve_0 : decode cX12_valve 0 = .ok (.aload_n 0, 1) := decs_at DX12_valve_0 0 rfl
theorem dX12_valve_1 : decode cX12_valve 1 = .ok (.getfield 53, 3) := decs_at DX12_valve_0 1 rfl
theorem dX12_valve_4 : decode cX12_valve 4 = .ok (.iload_n 1, 1) := decs_at DX12_valve_0 2 rfl
theorem dX12_valve_5 : decode cX12_valve 5 = .ok (.iaload, 1) := decs_at DX12_valve_0 3 rfl
theorem dX12_valve_6 : decode cX12_valve 6 = .ok (.aload_n 0, 1) := decs_at DX12_valve_0 4 rfl
theorem dX12_valve_7 : decode cX12_valve 7 = .ok (.getfield 56, 3) := decs_at DX12_valve_0 5 rfl
theorem dX12_valve_10 : decode cX12_valve 10 = .ok (.iload_n 1, 1) := decs_at DX12_valve_0 6 rfl
theorem dX12_valve_11 : decode cX12_valve 11 = .ok (.iaload, 1) := decs_at DX12_valve_0 7 rfl
theorem dX12_valve_12 : decode cX12_valve 12 = .ok (.isub, 1) := decs_at DX12_valve_0 8 rfl
theorem dX12_valve_13 : decode cX12_valve 13 = .ok (.istore_n 2, 1) := decs_at DX12_valve_0 9 rfl
theorem dX12_valve_14 : decode cX12_valve 14 = .ok (.aload_n 0, 1) := decs_at DX12_valve_0 10 rfl
theorem dX12_valve_15 : decode cX12_valve 15 = .ok (.getfield 35, 3) := decs_at DX12_valve_0 11 rfl
theorem dX12_valve_18 : decode cX12_valve 18 = .ok (.iload_n 1, 1) := decs_at DX12_valve_0 12 rfl
theorem dX12_valve_19 : decode cX12_valve 19 = .ok (.iaload, 1) := decs_at DX12_valve_0 13 rfl
theorem dX12_valve_20 : decode cX12_valve 20 = .ok (.istore_n 3, 1) := decs_at DX12_valve_0 14 rfl
theorem dX12_valve_21 : decode cX12_valve 21 = .ok (.iload_n 2, 1) := decs_at DX12_valve_0 15 rfl
theorem dX12_valve_22 : decode cX12_valve 22 = .ok (.iload_n 3, 1) := decs_at DX12_valve_0 16 rfl
theorem dX12_valve_23 : decode cX12_valve 23 = .ok (.invokestatic 259, 3) := decs_at DX12_valve_0 17 rfl
theorem dX12_valve_26 : decode cX12_valve 26 = .ok (.ineg, 1) := decs_at DX12_valve_0 18 rfl
theorem dX12_valve_27 : decode cX12_valve 27 = .ok (.if_icmp .ge 123, 3) := decs_at DX12_valve_0 19 rfl
theorem dX12_valve_30 : decode cX12_valve 30 = .ok (.aload_n 0, 1) := decs_at DX12_valve_0 20 rfl
theorem dX12_valve_31 : decode cX12_valve 31 = .ok (.getfield 50, 3) := decs_at DX12_valve_0 21 rfl
theorem dX12_valve_34 : decode cX12_valve 34 = .ok (.iload_n 1, 1) := decs_at DX12_valve_0 22 rfl
theorem dX12_valve_35 : decode cX12_valve 35 = .ok (.iaload, 1) := decs_at DX12_valve_0 23 rfl
theorem DX12_valve_24 : decs cX12_valve [(36, .iconst 2, 1), (37, .if_icmp .ne 4, 3), (40, .return_, 1), (41, .iload_n 3, 1), (42, .invokestatic 262, 3), (45, .iload_n 2, 1), (46, .ineg, 1), (47, .if_icmp .ge 10, 3), (50, .iload_n 3, 1), (51, .invokestatic 262, 3), (54, .goto 5, 3), (57, .iload_n 2, 1), (58, .ineg, 1), (59, .istore 4, 2), (61, .aload_n 0, 1), (62, .getfield 56, 3), (65, .iload_n 1, 1), (66, .dup2, 1), (67, .iaload, 1), (68, .iload 4, 2), (70, .isub, 1), (71, .iastore, 1), (72, .aload_n 0, 1), (73, .getfield 59, 3)] := by unfold decs; decide +kernel
theorem dX12_valve_36 : decode cX12_valve 36 = .ok (.iconst 2, 1) := decs_at DX12_valve_24 0 rfl
theorem dX12_valve_37 : decode cX12_valve 37 = .ok (.if_icmp .ne 4, 3) := decs_at DX12_valve_24 1 rfl
theorem dX12_valve_40 : decode cX12_valve 40 = .ok (.return_, 1) := decs_at DX12_valve_24 2 rfl
theorem dX12_valve_41 : decode cX12_valve 41 = .ok (.iload_n 3, 1) := decs_at DX12_valve_24 3 rfl
theorem dX12_valve_42 : decode cX12_valve 42 = .ok (.invokestatic 262, 3) := decs_at DX12_valve_24 4 rfl
theorem dX12_valve_45 : decode cX12_valve 45 = .ok (.iload_n 2, 1) := decs_at DX12_valve_24 5 rfl
theorem dX12_valve_46 : decode cX12_valve 46 = .ok (.ineg, 1) := decs_at DX12_valve_24 6 rfl
theorem dX12_valve_47 : decode cX12_valve 47 = .ok (.if_icmp .ge 10, 3) := decs_at DX12_valve_24 7 rfl
theorem dX12_valve_50 : decode cX12_valve 50 = .ok (.iload_n 3, 1) := decs_at DX12_valve_24 8 rfl
theorem dX12_valve_51 : decode cX12_valve 51 = .ok (.invokestatic 262, 3) := decs_at DX12_valve_24 9 rfl
theorem dX12_valve_54 : decode cX12_valve 54 = .ok (.goto 5, 3) := decs_at DX12_valve_24 10 rfl
theorem dX12_valve_57 : decode cX12_valve 57 = .ok (.iload_n 2, 1) := decs_at DX12_valve_24 11 rfl
theorem dX12_valve_58 : decode cX12_valve 58 = .ok (.ineg, 1) := decs_at DX12_valve_24 12 rfl
theorem dX12_valve_59 : decode cX12_valve 59 = .ok (.istore 4, 2) := decs_at DX12_valve_24 13 rfl
theorem dX12_valve_61 : decode cX12_valve 61 = .ok (.aload_n 0, 1) := decs_at DX12_valve_24 14 rfl
theorem dX12_valve_62 : decode cX12_valve 62 = .ok (.getfield 56, 3) := decs_at DX12_valve_24 15 rfl
theorem dX12_valve_65 : decode cX12_valve 65 = .ok (.iload_n 1, 1) := decs_at DX12_valve_24 16 rfl
theorem dX12_valve_66 : decode cX12_valve 66 = .ok (.dup2, 1) := decs_at DX12_valve_24 17 rfl
theorem dX12_valve_67 : decode cX12_valve 67 = .ok (.iaload, 1) := decs_at DX12_valve_24 18 rfl
theorem dX12_valve_68 : decode cX12_valve 68 = .ok (.iload 4, 2) := decs_at DX12_valve_24 19 rfl
theorem dX12_valve_70 : decode cX12_valve 70 = .ok (.isub, 1) := decs_at DX12_valve_24 20 rfl
theorem dX12_valve_71 : decode cX12_valve 71 = .ok (.iastore, 1) := decs_at DX12_valve_24 21 rfl
theorem dX12_valve_72 : decode cX12_valve 72 = .ok (.aload_n 0, 1) := decs_at DX12_valve_24 22 rfl
theorem dX12_valve_73 : decode cX12_valve 73 = .ok (.getfield 59, 3) := decs_at DX12_valve_24 23 rfl
theorem DX12_valve_48 : decs cX12_valve [(76, .iload_n 1, 1), (77, .aload_n 0, 1), (78, .getfield 59, 3), (81, .iload_n 1, 1), (82, .iaload, 1), (83, .iconst 2, 1), (84, .iload 4, 2), (86, .imul, 1), (87, .iadd, 1), (88, .sipush 500, 3), (91, .if_icmp .ge 17, 3), (94, .aload_n 0, 1), (95, .getfield 59, 3), (98, .iload_n 1, 1), (99, .iaload, 1), (100, .iconst 2, 1), (101, .iload 4, 2), (103, .imul, 1), (104, .iadd, 1), (105, .goto 6, 3), (108, .sipush 500, 3), (111, .iastore, 1), (112, .iload_n 3, 1), (113, .iconst 1, 1)] := by unfold decs; decide +kernel
theorem dX12_valve_76 : decode cX12_valve 76 = .ok (.iload_n 1, 1) := decs_at DX12_valve_48 0 rfl
theorem dX12_valve_77 : decode cX12_valve 77 = .ok (.aload_n 0, 1) := decs_at DX12_valve_48 1 rfl
theorem dX12_valve_78 : decode cX12_valve 78 = .ok (.getfield 59, 3) := decs_at DX12_valve_48 2 rfl
theorem dX12_valve_81 : decode cX12_valve 81 = .ok (.iload_n 1, 1) := decs_at DX12_valve_48 3 rfl
theorem dX12_valve_82 : decode cX12_valve 82 = .ok (.iaload, 1) := decs_at DX12_valve_48 4 rfl
theorem dX12_valve_83 : decode cX12_valve 83 = .ok (.iconst 2, 1) := decs_at DX12_valve_48 5 rfl
theorem dX12_valve_84 : decode cX12_valve 84 = .ok (.iload 4, 2) := decs_at DX12_valve_48 6 rfl
theorem dX12_valve_86 : decode cX12_valve 86 = .ok (.imul, 1) := decs_at DX12_valve_48 7 rfl
theorem dX12_valve_87 : decode cX12_valve 87 = .ok (.iadd, 1) := decs_at DX12_valve_48 8 rfl
theorem dX12_valve_88 : decode cX12_valve 88 = .ok (.sipush 500, 3) := decs_at DX12_valve_48 9 rfl
theorem dX12_valve_91 : decode cX12_valve 91 = .ok (.if_icmp .ge 17, 3) := decs_at DX12_valve_48 10 rfl
theorem dX12_valve_94 : decode cX12_valve 94 = .ok (.aload_n 0, 1) := decs_at DX12_valve_48 11 rfl
theorem dX12_valve_95 : decode cX12_valve 95 = .ok (.getfield 59, 3) := decs_at DX12_valve_48 12 rfl
theorem dX12_valve_98 : decode cX12_valve 98 = .ok (.iload_n 1, 1) := decs_at DX12_valve_48 13 rfl
theorem dX12_valve_99 : decode cX12_valve 99 = .ok (.iaload, 1) := decs_at DX12_valve_48 14 rfl
theorem dX12_valve_100 : decode cX12_valve 100 = .ok (.iconst 2, 1) := decs_at DX12_valve_48 15 rfl
theorem dX12_valve_101 : decode cX12_valve 101 = .ok (.iload 4, 2) := decs_at DX12_valve_48 16 rfl
theorem dX12_valve_103 : decode cX12_valve 103 = .ok (.imul, 1) := decs_at DX12_valve_48 17 rfl
theorem dX12_valve_104 : decode cX12_valve 104 = .ok (.iadd, 1) := decs_at DX12_valve_48 18 rfl
theorem dX12_valve_105 : decode cX12_valve 105 = .ok (.goto 6, 3) := decs_at DX12_valve_48 19 rfl
theorem dX12_valve_108 : decode cX12_valve 108 = .ok (.sipush 500, 3) := decs_at DX12_valve_48 20 rfl
theorem dX12_valve_111 : decode cX12_valve 111 = .ok (.iastore, 1) := decs_at DX12_valve_48 21 rfl
theorem dX12_valve_112 : decode cX12_valve 112 = .ok (.iload_n 3, 1) := decs_at DX12_valve_48 22 rfl
theorem dX12_valve_113 : decode cX12_valve 113 = .ok (.iconst 1, 1) := decs_at DX12_valve_48 23 rfl
theorem DX12_valve_72 : decs cX12_valve [(114, .if_icmp .ne 33, 3), (117, .aload_n 0, 1), (118, .getfield 53, 3), (121, .iload_n 1, 1), (122, .aload_n 0, 1), (123, .getfield 53, 3), (126, .iload_n 1, 1), (127, .iaload, 1), (128, .bipush 8, 2), (130, .if_icmp .le 15, 3), (133, .aload_n 0, 1), (134, .getfield 53, 3), (137, .iload_n 1, 1), (138, .iaload, 1), (139, .bipush 8, 2), (141, .isub, 1), (142, .goto 4, 3), (145, .iconst 0, 1), (146, .iastore, 1), (147, .goto 121, 3), (150, .iload_n 2, 1), (151, .iload_n 3, 1), (152, .invokestatic 259, 3), (155, .if_icmp .le 113, 3)] := by unfold decs; decide +kernel
theorem dX12_valve_114 : decode cX12_valve 114 = .ok (.if_icmp .ne 33, 3) := decs_at DX12_valve_72 0 rfl
theorem dX12_valve_117 : decode cX12_valve 117 = .ok (.aload_n 0, 1) := decs_at DX12_valve_72 1 rfl
theorem dX12_valve_118 : decode cX12_valve 118 = .ok (.getfield 53, 3) := decs_at DX12_valve_72 2 rfl
theorem dX12_valve_121 : decode cX12_valve 121 = .ok (.iload_n 1, 1) := decs_at DX12_valve_72 3 rfl
theorem dX12_valve_122 : decode cX12_valve 122 = .ok (.aload_n 0, 1) := decs_at DX12_valve_72 4 rfl
theorem dX12_valve_123 : decode cX12_valve 123 = .ok (.getfield 53, 3) := decs_at DX12_valve_72 5 rfl
theorem dX12_valve_126 : decode cX12_valve 126 = .ok (.iload_n 1, 1) := decs_at DX12_valve_72 6 rfl
theorem dX12_valve_127 : decode cX12_valve 127 = .ok (.iaload, 1) := decs_at DX12_valve_72 7 rfl
theorem dX12_valve_128 : decode cX12_valve 128 = .ok (.bipush 8, 2) := decs_at DX12_valve_72 8 rfl
theorem dX12_valve_130 : decode cX12_valve 130 = .ok (.if_icmp .le 15, 3) := decs_at DX12_valve_72 9 rfl
theorem dX12_valve_133 : decode cX12_valve 133 = .ok (.aload_n 0, 1) := decs_at DX12_valve_72 10 rfl
theorem dX12_valve_134 : decode cX12_valve 134 = .ok (.getfield 53, 3) := decs_at DX12_valve_72 11 rfl
theorem dX12_valve_137 : decode cX12_valve 137 = .ok (.iload_n 1, 1) := decs_at DX12_valve_72 12 rfl
theorem dX12_valve_138 : decode cX12_valve 138 = .ok (.iaload, 1) := decs_at DX12_valve_72 13 rfl
theorem dX12_valve_139 : decode cX12_valve 139 = .ok (.bipush 8, 2) := decs_at DX12_valve_72 14 rfl
theorem dX12_valve_141 : decode cX12_valve 141 = .ok (.isub, 1) := decs_at DX12_valve_72 15 rfl
theorem dX12_valve_142 : decode cX12_valve 142 = .ok (.goto 4, 3) := decs_at DX12_valve_72 16 rfl
theorem dX12_valve_145 : decode cX12_valve 145 = .ok (.iconst 0, 1) := decs_at DX12_valve_72 17 rfl
theorem dX12_valve_146 : decode cX12_valve 146 = .ok (.iastore, 1) := decs_at DX12_valve_72 18 rfl
theorem dX12_valve_147 : decode cX12_valve 147 = .ok (.goto 121, 3) := decs_at DX12_valve_72 19 rfl
theorem dX12_valve_150 : decode cX12_valve 150 = .ok (.iload_n 2, 1) := decs_at DX12_valve_72 20 rfl
theorem dX12_valve_151 : decode cX12_valve 151 = .ok (.iload_n 3, 1) := decs_at DX12_valve_72 21 rfl
theorem dX12_valve_152 : decode cX12_valve 152 = .ok (.invokestatic 259, 3) := decs_at DX12_valve_72 22 rfl
theorem dX12_valve_155 : decode cX12_valve 155 = .ok (.if_icmp .le 113, 3) := decs_at DX12_valve_72 23 rfl
theorem DX12_valve_96 : decs cX12_valve [(158, .bipush 100, 2), (160, .aload_n 0, 1), (161, .getfield 41, 3), (164, .iload_n 1, 1), (165, .iaload, 1), (166, .imul, 1), (167, .istore 4, 2), (169, .aload_n 0, 1), (170, .getfield 50, 3), (173, .iload_n 1, 1), (174, .iaload, 1), (175, .iconst 1, 1), (176, .if_icmp .eq 52, 3), (179, .aload_n 0, 1), (180, .getfield 59, 3), (183, .iload_n 1, 1), (184, .iaload, 1), (185, .iload 4, 2), (187, .if_icmp .le 41, 3), (190, .aload_n 0, 1), (191, .getfield 59, 3), (194, .iload_n 1, 1), (195, .aload_n 0, 1), (196, .getfield 59, 3)] := by unfold decs; decide +kernel
theorem dX12_valve_158 : decode cX12_valve 158 = .ok (.bipush 100, 2) := decs_at DX12_valve_96 0 rfl
theorem dX12_valve_160 : decode cX12_valve 160 = .ok (.aload_n 0, 1) := decs_at DX12_valve_96 1 rfl
theorem dX12_valve_161 : decode cX12_valve 161 = .ok (.getfield 41, 3) := decs_at DX12_valve_96 2 rfl
theorem dX12_valve_164 : decode cX12_valve 164 = .ok (.iload_n 1, 1) := decs_at DX12_valve_96 3 rfl
theorem dX12_valve_165 : decode cX12_valve 165 = .ok (.iaload, 1) := decs_at DX12_valve_96 4 rfl
theorem dX12_valve_166 : decode cX12_valve 166 = .ok (.imul, 1) := decs_at DX12_valve_96 5 rfl
theorem dX12_valve_167 : decode cX12_valve 167 = .ok (.istore 4, 2) := decs_at DX12_valve_96 6 rfl
theorem dX12_valve_169 : decode cX12_valve 169 = .ok (.aload_n 0, 1) := decs_at DX12_valve_96 7 rfl
theorem dX12_valve_170 : decode cX12_valve 170 = .ok (.getfield 50, 3) := decs_at DX12_valve_96 8 rfl
theorem dX12_valve_173 : decode cX12_valve 173 = .ok (.iload_n 1, 1) := decs_at DX12_valve_96 9 rfl
theorem dX12_valve_174 : decode cX12_valve 174 = .ok (.iaload, 1) := decs_at DX12_valve_96 10 rfl
theorem dX12_valve_175 : decode cX12_valve 175 = .ok (.iconst 1, 1) := decs_at DX12_valve_96 11 rfl
theorem dX12_valve_176 : decode cX12_valve 176 = .ok (.if_icmp .eq 52, 3) := decs_at DX12_valve_96 12 rfl
theorem dX12_valve_179 : decode cX12_valve 179 = .ok (.aload_n 0, 1) := decs_at DX12_valve_96 13 rfl
theorem dX12_valve_180 : decode cX12_valve 180 = .ok (.getfield 59, 3) := decs_at DX12_valve_96 14 rfl
theorem dX12_valve_183 : decode cX12_valve 183 = .ok (.iload_n 1, 1) := decs_at DX12_valve_96 15 rfl
theorem dX12_valve_184 : decode cX12_valve 184 = .ok (.iaload, 1) := decs_at DX12_valve_96 16 rfl
theorem dX12_valve_185 : decode cX12_valve 185 = .ok (.iload 4, 2) := decs_at DX12_valve_96 17 rfl
theorem dX12_valve_187 : decode cX12_valve 187 = .ok (.if_icmp .le 41, 3) := decs_at DX12_valve_96 18 rfl
theorem dX12_valve_190 : decode cX12_valve 190 = .ok (.aload_n 0, 1) := decs_at DX12_valve_96 19 rfl
theorem dX12_valve_191 : decode cX12_valve 191 = .ok (.getfield 59, 3) := decs_at DX12_valve_96 20 rfl
theorem dX12_valve_194 : decode cX12_valve 194 = .ok (.iload_n 1, 1) := decs_at DX12_valve_96 21 rfl
theorem dX12_valve_195 : decode cX12_valve 195 = .ok (.aload_n 0, 1) := decs_at DX12_valve_96 22 rfl
theorem dX12_valve_196 : decode cX12_valve 196 = .ok (.getfield 59, 3) := decs_at DX12_valve_96 23 rfl
theorem DX12_valve_120 : decs cX12_valve [(199, .iload_n 1, 1), (200, .iaload, 1), (201, .iload_n 3, 1), (202, .invokestatic 265, 3), (205, .isub, 1), (206, .iload 4, 2), (208, .if_icmp .le 17, 3), (211, .aload_n 0, 1), (212, .getfield 59, 3), (215, .iload_n 1, 1), (216, .iaload, 1), (217, .iload_n 3, 1), (218, .invokestatic 265, 3), (221, .isub, 1), (222, .goto 5, 3), (225, .iload 4, 2), (227, .iastore, 1), (228, .iload_n 2, 1), (229, .iconst 2, 1), (230, .idiv, 1), (231, .bipush 10, 2), (233, .if_icmp .ge 9, 3), (236, .iload_n 2, 1), (237, .iconst 2, 1)] := by unfold decs; decide +kernel
theorem dX12_valve_199 : decode cX12_valve 199 = .ok (.iload_n 1, 1) := decs_at DX12_valve_120 0 rfl
theorem dX12_valve_200 : decode cX12_valve 200 = .ok (.iaload, 1) := decs_at DX12_valve_120 1 rfl
theorem dX12_valve_201 : decode cX12_valve 201 = .ok (.iload_n 3, 1) := decs_at DX12_valve_120 2 rfl
theorem dX12_valve_202 : decode cX12_valve 202 = .ok (.invokestatic 265, 3) := decs_at DX12_valve_120 3 rfl
theorem dX12_valve_205 : decode cX12_valve 205 = .ok (.isub, 1) := decs_at DX12_valve_120 4 rfl
theorem dX12_valve_206 : decode cX12_valve 206 = .ok (.iload 4, 2) := decs_at DX12_valve_120 5 rfl
theorem dX12_valve_208 : decode cX12_valve 208 = .ok (.if_icmp .le 17, 3) := decs_at DX12_valve_120 6 rfl
theorem dX12_valve_211 : decode cX12_valve 211 = .ok (.aload_n 0, 1) := decs_at DX12_valve_120 7 rfl
theorem dX12_valve_212 : decode cX12_valve 212 = .ok (.getfield 59, 3) := decs_at DX12_valve_120 8 rfl
theorem dX12_valve_215 : decode cX12_valve 215 = .ok (.iload_n 1, 1) := decs_at DX12_valve_120 9 rfl
theorem dX12_valve_216 : decode cX12_valve 216 = .ok (.iaload, 1) := decs_at DX12_valve_120 10 rfl
theorem dX12_valve_217 : decode cX12_valve 217 = .ok (.iload_n 3, 1) := decs_at DX12_valve_120 11 rfl
theorem dX12_valve_218 : decode cX12_valve 218 = .ok (.invokestatic 265, 3) := decs_at DX12_valve_120 12 rfl
theorem dX12_valve_221 : decode cX12_valve 221 = .ok (.isub, 1) := decs_at DX12_valve_120 13 rfl
theorem dX12_valve_222 : decode cX12_valve 222 = .ok (.goto 5, 3) := decs_at DX12_valve_120 14 rfl
theorem dX12_valve_225 : decode cX12_valve 225 = .ok (.iload 4, 2) := decs_at DX12_valve_120 15 rfl
theorem dX12_valve_227 : decode cX12_valve 227 = .ok (.iastore, 1) := decs_at DX12_valve_120 16 rfl
theorem dX12_valve_228 : decode cX12_valve 228 = .ok (.iload_n 2, 1) := decs_at DX12_valve_120 17 rfl
theorem dX12_valve_229 : decode cX12_valve 229 = .ok (.iconst 2, 1) := decs_at DX12_valve_120 18 rfl
theorem dX12_valve_230 : decode cX12_valve 230 = .ok (.idiv, 1) := decs_at DX12_valve_120 19 rfl
theorem dX12_valve_231 : decode cX12_valve 231 = .ok (.bipush 10, 2) := decs_at DX12_valve_120 20 rfl
theorem dX12_valve_233 : decode cX12_valve 233 = .ok (.if_icmp .ge 9, 3) := decs_at DX12_valve_120 21 rfl
theorem dX12_valve_236 : decode cX12_valve 236 = .ok (.iload_n 2, 1) := decs_at DX12_valve_120 22 rfl
theorem dX12_valve_237 : decode cX12_valve 237 = .ok (.iconst 2, 1) := decs_at DX12_valve_120 23 rfl
theorem DX12_valve_144 : decs cX12_valve [(238, .idiv, 1), (239, .goto 5, 3), (242, .bipush 10, 2), (244, .istore 5, 2), (246, .aload_n 0, 1), (247, .getfield 53, 3), (250, .iload_n 1, 1), (251, .dup2, 1), (252, .iaload, 1), (253, .iload 5, 2), (255, .isub, 1), (256, .iastore, 1), (257, .aload_n 0, 1), (258, .getfield 56, 3), (261, .iload_n 1, 1), (262, .dup2, 1), (263, .iaload, 1), (264, .iload 5, 2), (266, .iadd, 1), (267, .iastore, 1), (268, .return_, 1)] := by unfold decs; decide +kernel
theorem dX12_valve_238 : decode cX12_valve 238 = .ok (.idiv, 1) := decs_at DX12_valve_144 0 rfl
theorem dX12_valve_239 : decode cX12_valve 239 = .ok (.goto 5, 3) := decs_at DX12_valve_144 1 rfl
theorem dX12_valve_242 : decode cX12_valve 242 = .ok (.bipush 10, 2) := decs_at DX12_valve_144 2 rfl
theorem dX12_valve_244 : decode cX12_valve 244 = .ok (.istore 5, 2) := decs_at DX12_valve_144 3 rfl
theorem dX12_valve_246 : decode cX12_valve 246 = .ok (.aload_n 0, 1) := decs_at DX12_valve_144 4 rfl
theorem dX12_valve_247 : decode cX12_valve 247 = .ok (.getfield 53, 3) := decs_at DX12_valve_144 5 rfl
theorem dX12_valve_250 : decode cX12_valve 250 = .ok (.iload_n 1, 1) := decs_at DX12_valve_144 6 rfl
theorem dX12_valve_251 : decode cX12_valve 251 = .ok (.dup2, 1) := decs_at DX12_valve_144 7 rfl
theorem dX12_valve_252 : decode cX12_valve 252 = .ok (.iaload, 1) := decs_at DX12_valve_144 8 rfl
theorem dX12_valve_253 : decode cX12_valve 253 = .ok (.iload 5, 2) := decs_at DX12_valve_144 9 rfl
theorem dX12_valve_255 : decode cX12_valve 255 = .ok (.isub, 1) := decs_at DX12_valve_144 10 rfl
theorem dX12_valve_256 : decode cX12_valve 256 = .ok (.iastore, 1) := decs_at DX12_valve_144 11 rfl
theorem dX12_valve_257 : decode cX12_valve 257 = .ok (.aload_n 0, 1) := decs_at DX12_valve_144 12 rfl
theorem dX12_valve_258 : decode cX12_valve 258 = .ok (.getfield 56, 3) := decs_at DX12_valve_144 13 rfl
theorem dX12_valve_261 : decode cX12_valve 261 = .ok (.iload_n 1, 1) := decs_at DX12_valve_144 14 rfl
theorem dX12_valve_262 : decode cX12_valve 262 = .ok (.dup2, 1) := decs_at DX12_valve_144 15 rfl
theorem dX12_valve_263 : decode cX12_valve 263 = .ok (.iaload, 1) := decs_at DX12_valve_144 16 rfl
theorem dX12_valve_264 : decode cX12_valve 264 = .ok (.iload 5, 2) := decs_at DX12_valve_144 17 rfl
theorem dX12_valve_266 : decode cX12_valve 266 = .ok (.iadd, 1) := decs_at DX12_valve_144 18 rfl
theorem dX12_valve_267 : decode cX12_valve 267 = .ok (.iastore, 1) := decs_at DX12_valve_144 19 rfl
theorem dX12_valve_268 : decode cX12_valve 268 = .ok (.return_, 1) := decs_at DX12_valve_144 20 rfl
theorem DX12_tick_0 : decs cX12_tick [(0, .aload_n 0, 1), (1, .iload_n 1, 1), (2, .invokevirtual 268, 3), (5, .istore_n 2, 1), (6, .iload_n 1, 1), (7, .aload_n 0, 1), (8, .getfield 250, 3), (11, .if_icmp .lt 7, 3), (14, .iconst 3, 1), (15, .goto 18, 3), (18, .iload_n 2, 1), (19, .iconst (-1), 1), (20, .if_icmp .ne 7, 3), (23, .iconst 1, 1), (24, .goto 9, 3), (27, .aload_n 0, 1), (28, .getfield 26, 3), (31, .iload_n 2, 1), (32, .iaload, 1), (33, .istore_n 3, 1), (34, .iload_n 2, 1), (35, .iconst (-1), 1), (36, .if_icmp .ne 7, 3), (39, .iconst 0, 1)] := by unfold decs; decide +kernel
theorem dX12_tick_0 : decode cX12_tick 0 = .ok (.aload_n 0, 1) := decs_at DX12_tick_0 0 rfl
theorem dX12_tick_1 : decode cX12_tick 1 = .ok (.iload_n 1, 1) := decs_at DX12_tick_0 1 rfl
theorem dX12_tick_2 : decode cX12_tick 2 = .ok (.invokevirtual 268, 3) := decs_at DX12_tick_0 2 rfl
theorem dX12_tick_5 : decode cX12_tick 5 = .ok (.istore_n 2, 1) := decs_at DX12_tick_0 3 rfl
theorem dX12_tick_6 : decode cX12_tick 6 = .ok (.iload_n 1, 1) := decs_at DX12_tick_0 4 rfl
theorem dX12_tick_7 : decode cX12_tick 7 = .ok (.aload_n 0, 1) := decs_at DX12_tick_0 5 rfl
theorem dX12_tick_8 : decode cX12_tick 8 = .ok (.getfield 250, 3) := decs_at DX12_tick_0 6 rfl
theorem dX12_tick_11 : decode cX12_tick 11 = .ok (.if_icmp .lt 7, 3) := decs_at DX12_tick_0 7 rfl
theorem dX12_tick_14 : decode cX12_tick 14 = .ok (.iconst 3, 1) := decs_at DX12_tick_0 8 rfl
theorem dX12_tick_15 : decode cX12_tick 15 = .ok (.goto 18, 3) := decs_at DX12_tick_0 9 rfl
theorem dX12_tick_18 : decode cX12_tick 18 = .ok (.iload_n 2, 1) := decs_at DX12_tick_0 10 rfl
theorem dX12_tick_19 : decode cX12_tick 19 = .ok (.iconst (-1), 1) := decs_at DX12_tick_0 11 rfl
theorem dX12_tick_20 : decode cX12_tick 20 = .ok (.if_icmp .ne 7, 3) := decs_at DX12_tick_0 12 rfl
theorem dX12_tick_23 : decode cX12_tick 23 = .ok (.iconst 1, 1) := decs_at DX12_tick_0 13 rfl
theorem dX12_tick_24 : decode cX12_tick 24 = .ok (.goto 9, 3) := decs_at DX12_tick_0 14 rfl
theorem dX12_tick_27 : decode cX12_tick 27 = .ok (.aload_n 0, 1) := decs_at DX12_tick_0 15 rfl
theorem dX12_tick_28 : decode cX12_tick 28 = .ok (.getfield 26, 3) := decs_at DX12_tick_0 16 rfl
theorem dX12_tick_31 : decode cX12_tick 31 = .ok (.iload_n 2, 1) := decs_at DX12_tick_0 17 rfl
theorem dX12_tick_32 : decode cX12_tick 32 = .ok (.iaload, 1) := decs_at DX12_tick_0 18 rfl
theorem dX12_tick_33 : decode cX12_tick 33 = .ok (.istore_n 3, 1) := decs_at DX12_tick_0 19 rfl
theorem dX12_tick_34 : decode cX12_tick 34 = .ok (.iload_n 2, 1) := decs_at DX12_tick_0 20 rfl
theorem dX12_tick_35 : decode cX12_tick 35 = .ok (.iconst (-1), 1) := decs_at DX12_tick_0 21 rfl
theorem dX12_tick_36 : decode cX12_tick 36 = .ok (.if_icmp .ne 7, 3) := decs_at DX12_tick_0 22 rfl
theorem dX12_tick_39 : decode cX12_tick 39 = .ok (.iconst 0, 1) := decs_at DX12_tick_0 23 rfl
theorem DX12_tick_24 : decs cX12_tick [(40, .goto 9, 3), (43, .aload_n 0, 1), (44, .getfield 29, 3), (47, .iload_n 2, 1), (48, .iaload, 1), (49, .istore 4, 2), (51, .aload_n 0, 1), (52, .iconst 0, 1), (53, .iload_n 3, 1), (54, .iload 4, 2), (56, .invokevirtual 271, 3), (59, .aload_n 0, 1), (60, .getfield 241, 3), (63, .ifCond .eq 14, 3), (66, .aload_n 0, 1), (67, .aload_n 0, 1), (68, .getfield 16, 3), (71, .iload_n 3, 1), (72, .iload 4, 2), (74, .invokevirtual 271, 3), (77, .iconst 1, 1), (78, .istore 5, 2), (80, .iload 5, 2), (82, .aload_n 0, 1)] := by unfold decs; decide +kernel
theorem dX12_tick_40 : decode cX12_tick 40 = .ok (.goto 9, 3) := decs_at DX12_tick_24 0 rfl
theorem dX12_tick_43 : decode cX12_tick 43 = .ok (.aload_n 0, 1) := decs_at DX12_tick_24 1 rfl
theorem dX12_tick_44 : decode cX12_tick 44 = .ok (.getfield 29, 3) := decs_at DX12_tick_24 2 rfl
theorem dX12_tick_47 : decode cX12_tick 47 = .ok (.iload_n 2, 1) := decs_at DX12_tick_24 3 rfl
theorem dX12_tick_48 : decode cX12_tick 48 = .ok (.iaload, 1) := decs_at DX12_tick_24 4 rfl
theorem dX12_tick_49 : decode cX12_tick 49 = .ok (.istore 4, 2) := decs_at DX12_tick_24 5 rfl
theorem dX12_tick_51 : decode cX12_tick 51 = .ok (.aload_n 0, 1) := decs_at DX12_tick_24 6 rfl
theorem dX12_tick_52 : decode cX12_tick 52 = .ok (.iconst 0, 1) := decs_at DX12_tick_24 7 rfl
theorem dX12_tick_53 : decode cX12_tick 53 = .ok (.iload_n 3, 1) := decs_at DX12_tick_24 8 rfl
theorem dX12_tick_54 : decode cX12_tick 54 = .ok (.iload 4, 2) := decs_at DX12_tick_24 9 rfl
theorem dX12_tick_56 : decode cX12_tick 56 = .ok (.invokevirtual 271, 3) := decs_at DX12_tick_24 10 rfl
theorem dX12_tick_59 : decode cX12_tick 59 = .ok (.aload_n 0, 1) := decs_at DX12_tick_24 11 rfl
theorem dX12_tick_60 : decode cX12_tick 60 = .ok (.getfield 241, 3) := decs_at DX12_tick_24 12 rfl
theorem dX12_tick_63 : decode cX12_tick 63 = .ok (.ifCond .eq 14, 3) := decs_at DX12_tick_24 13 rfl
theorem dX12_tick_66 : decode cX12_tick 66 = .ok (.aload_n 0, 1) := decs_at DX12_tick_24 14 rfl
theorem dX12_tick_67 : decode cX12_tick 67 = .ok (.aload_n 0, 1) := decs_at DX12_tick_24 15 rfl
theorem dX12_tick_68 : decode cX12_tick 68 = .ok (.getfield 16, 3) := decs_at DX12_tick_24 16 rfl
theorem dX12_tick_71 : decode cX12_tick 71 = .ok (.iload_n 3, 1) := decs_at DX12_tick_24 17 rfl
theorem dX12_tick_72 : decode cX12_tick 72 = .ok (.iload 4, 2) := decs_at DX12_tick_24 18 rfl
theorem dX12_tick_74 : decode cX12_tick 74 = .ok (.invokevirtual 271, 3) := decs_at DX12_tick_24 19 rfl
theorem dX12_tick_77 : decode cX12_tick 77 = .ok (.iconst 1, 1) := decs_at DX12_tick_24 20 rfl
theorem dX12_tick_78 : decode cX12_tick 78 = .ok (.istore 5, 2) := decs_at DX12_tick_24 21 rfl
theorem dX12_tick_80 : decode cX12_tick 80 = .ok (.iload 5, 2) := decs_at DX12_tick_24 22 rfl
theorem dX12_tick_82 : decode cX12_tick 82 = .ok (.aload_n 0, 1) := decs_at DX12_tick_24 23 rfl
theorem DX12_tick_48 : decs cX12_tick [(83, .getfield 16, 3), (86, .if_icmp .gt 68, 3), (89, .aload_n 0, 1), (90, .getfield 62, 3), (93, .iload 5, 2), (95, .iload_n 1, 1), (96, .aload_n 0, 1), (97, .getfield 253, 3), (100, .if_icmp .lt 18, 3), (103, .iload 5, 2), (105, .aload_n 0, 1), (106, .getfield 256, 3), (109, .iconst 1, 1), (110, .iadd, 1), (111, .if_icmp .ne 7, 3), (114, .iconst 0, 1), (115, .goto 32, 3), (118, .aload_n 0, 1), (119, .getfield 53, 3), (122, .iload 5, 2), (124, .iconst 1, 1), (125, .isub, 1), (126, .iaload, 1), (127, .aload_n 0, 1)] := by unfold decs; decide +kernel
theorem dX12_tick_83 : decode cX12_tick 83 = .ok (.getfield 16, 3) := decs_at DX12_tick_48 0 rfl
theorem dX12_tick_86 : decode cX12_tick 86 = .ok (.if_icmp .gt 68, 3) := decs_at DX12_tick_48 1 rfl
theorem dX12_tick_89 : decode cX12_tick 89 = .ok (.aload_n 0, 1) := decs_at DX12_tick_48 2 rfl
theorem dX12_tick_90 : decode cX12_tick 90 = .ok (.getfield 62, 3) := decs_at DX12_tick_48 3 rfl
theorem dX12_tick_93 : decode cX12_tick 93 = .ok (.iload 5, 2) := decs_at DX12_tick_48 4 rfl
theorem dX12_tick_95 : decode cX12_tick 95 = .ok (.iload_n 1, 1) := decs_at DX12_tick_48 5 rfl
theorem dX12_tick_96 : decode cX12_tick 96 = .ok (.aload_n 0, 1) := decs_at DX12_tick_48 6 rfl
theorem dX12_tick_97 : decode cX12_tick 97 = .ok (.getfield 253, 3) := decs_at DX12_tick_48 7 rfl
theorem dX12_tick_100 : decode cX12_tick 100 = .ok (.if_icmp .lt 18, 3) := decs_at DX12_tick_48 8 rfl
theorem dX12_tick_103 : decode cX12_tick 103 = .ok (.iload 5, 2) := decs_at DX12_tick_48 9 rfl
theorem dX12_tick_105 : decode cX12_tick 105 = .ok (.aload_n 0, 1) := decs_at DX12_tick_48 10 rfl
theorem dX12_tick_106 : decode cX12_tick 106 = .ok (.getfield 256, 3) := decs_at DX12_tick_48 11 rfl
theorem dX12_tick_109 : decode cX12_tick 109 = .ok (.iconst 1, 1) := decs_at DX12_tick_48 12 rfl
theorem dX12_tick_110 : decode cX12_tick 110 = .ok (.iadd, 1) := decs_at DX12_tick_48 13 rfl
theorem dX12_tick_111 : decode cX12_tick 111 = .ok (.if_icmp .ne 7, 3) := decs_at DX12_tick_48 14 rfl
theorem dX12_tick_114 : decode cX12_tick 114 = .ok (.iconst 0, 1) := decs_at DX12_tick_48 15 rfl
theorem dX12_tick_115 : decode cX12_tick 115 = .ok (.goto 32, 3) := decs_at DX12_tick_48 16 rfl
theorem dX12_tick_118 : decode cX12_tick 118 = .ok (.aload_n 0, 1) := decs_at DX12_tick_48 17 rfl
theorem dX12_tick_119 : decode cX12_tick 119 = .ok (.getfield 53, 3) := decs_at DX12_tick_48 18 rfl
theorem dX12_tick_122 : decode cX12_tick 122 = .ok (.iload 5, 2) := decs_at DX12_tick_48 19 rfl
theorem dX12_tick_124 : decode cX12_tick 124 = .ok (.iconst 1, 1) := decs_at DX12_tick_48 20 rfl
theorem dX12_tick_125 : decode cX12_tick 125 = .ok (.isub, 1) := decs_at DX12_tick_48 21 rfl
theorem dX12_tick_126 : decode cX12_tick 126 = .ok (.iaload, 1) := decs_at DX12_tick_48 22 rfl
theorem dX12_tick_127 : decode cX12_tick 127 = .ok (.aload_n 0, 1) := decs_at DX12_tick_48 23 rfl
theorem DX12_tick_72 : decs cX12_tick [(128, .getfield 53, 3), (131, .iload 5, 2), (133, .iaload, 1), (134, .isub, 1), (135, .aload_n 0, 1), (136, .getfield 47, 3), (139, .iload 5, 2), (141, .iaload, 1), (142, .imul, 1), (143, .sipush 400, 3), (146, .idiv, 1), (147, .iastore, 1), (148, .iinc 5 1, 3), (151, .goto (-71), 3), (154, .iconst 1, 1), (155, .istore 5, 2), (157, .iload 5, 2), (159, .aload_n 0, 1), (160, .getfield 16, 3), (163, .if_icmp .gt 45, 3), (166, .aload_n 0, 1), (167, .getfield 53, 3), (170, .iload 5, 2), (172, .iconst 1, 1)] := by unfold decs; decide +kernel
theorem dX12_tick_128 : decode cX12_tick 128 = .ok (.getfield 53, 3) := decs_at DX12_tick_72 0 rfl
theorem dX12_tick_131 : decode cX12_tick 131 = .ok (.iload 5, 2) := decs_at DX12_tick_72 1 rfl
theorem dX12_tick_133 : decode cX12_tick 133 = .ok (.iaload, 1) := decs_at DX12_tick_72 2 rfl
theorem dX12_tick_134 : decode cX12_tick 134 = .ok (.isub, 1) := decs_at DX12_tick_72 3 rfl
theorem dX12_tick_135 : decode cX12_tick 135 = .ok (.aload_n 0, 1) := decs_at DX12_tick_72 4 rfl
theorem dX12_tick_136 : decode cX12_tick 136 = .ok (.getfield 47, 3) := decs_at DX12_tick_72 5 rfl
theorem dX12_tick_139 : decode cX12_tick 139 = .ok (.iload 5, 2) := decs_at DX12_tick_72 6 rfl
theorem dX12_tick_141 : decode cX12_tick 141 = .ok (.iaload, 1) := decs_at DX12_tick_72 7 rfl
theorem dX12_tick_142 : decode cX12_tick 142 = .ok (.imul, 1) := decs_at DX12_tick_72 8 rfl
theorem dX12_tick_143 : decode cX12_tick 143 = .ok (.sipush 400, 3) := decs_at DX12_tick_72 9 rfl
theorem dX12_tick_146 : decode cX12_tick 146 = .ok (.idiv, 1) := decs_at DX12_tick_72 10 rfl
theorem dX12_tick_147 : decode cX12_tick 147 = .ok (.iastore, 1) := decs_at DX12_tick_72 11 rfl
theorem dX12_tick_148 : decode cX12_tick 148 = .ok (.iinc 5 1, 3) := decs_at DX12_tick_72 12 rfl
theorem dX12_tick_151 : decode cX12_tick 151 = .ok (.goto (-71), 3) := decs_at DX12_tick_72 13 rfl
theorem dX12_tick_154 : decode cX12_tick 154 = .ok (.iconst 1, 1) := decs_at DX12_tick_72 14 rfl
theorem dX12_tick_155 : decode cX12_tick 155 = .ok (.istore 5, 2) := decs_at DX12_tick_72 15 rfl
theorem dX12_tick_157 : decode cX12_tick 157 = .ok (.iload 5, 2) := decs_at DX12_tick_72 16 rfl
theorem dX12_tick_159 : decode cX12_tick 159 = .ok (.aload_n 0, 1) := decs_at DX12_tick_72 17 rfl
theorem dX12_tick_160 : decode cX12_tick 160 = .ok (.getfield 16, 3) := decs_at DX12_tick_72 18 rfl
theorem dX12_tick_163 : decode cX12_tick 163 = .ok (.if_icmp .gt 45, 3) := decs_at DX12_tick_72 19 rfl
theorem dX12_tick_166 : decode cX12_tick 166 = .ok (.aload_n 0, 1) := decs_at DX12_tick_72 20 rfl
theorem dX12_tick_167 : decode cX12_tick 167 = .ok (.getfield 53, 3) := decs_at DX12_tick_72 21 rfl
theorem dX12_tick_170 : decode cX12_tick 170 = .ok (.iload 5, 2) := decs_at DX12_tick_72 22 rfl
theorem dX12_tick_172 : decode cX12_tick 172 = .ok (.iconst 1, 1) := decs_at DX12_tick_72 23 rfl
theorem DX12_tick_96 : decs cX12_tick [(173, .isub, 1), (174, .dup2, 1), (175, .iaload, 1), (176, .aload_n 0, 1), (177, .getfield 62, 3), (180, .iload 5, 2), (182, .iaload, 1), (183, .isub, 1), (184, .iastore, 1), (185, .aload_n 0, 1), (186, .getfield 53, 3), (189, .iload 5, 2), (191, .dup2, 1), (192, .iaload, 1), (193, .aload_n 0, 1), (194, .getfield 62, 3), (197, .iload 5, 2), (199, .iaload, 1), (200, .iadd, 1), (201, .iastore, 1), (202, .iinc 5 1, 3), (205, .goto (-48), 3), (208, .iload_n 1, 1), (209, .aload_n 0, 1)] := by unfold decs; decide +kernel
theorem dX12_tick_173 : decode cX12_tick 173 = .ok (.isub, 1) := decs_at DX12_tick_96 0 rfl
theorem dX12_tick_174 : decode cX12_tick 174 = .ok (.dup2, 1) := decs_at DX12_tick_96 1 rfl
theorem dX12_tick_175 : decode cX12_tick 175 = .ok (.iaload, 1) := decs_at DX12_tick_96 2 rfl
theorem dX12_tick_176 : decode cX12_tick 176 = .ok (.aload_n 0, 1) := decs_at DX12_tick_96 3 rfl
theorem dX12_tick_177 : decode cX12_tick 177 = .ok (.getfield 62, 3) := decs_at DX12_tick_96 4 rfl
theorem dX12_tick_180 : decode cX12_tick 180 = .ok (.iload 5, 2) := decs_at DX12_tick_96 5 rfl
theorem dX12_tick_182 : decode cX12_tick 182 = .ok (.iaload, 1) := decs_at DX12_tick_96 6 rfl
theorem dX12_tick_183 : decode cX12_tick 183 = .ok (.isub, 1) := decs_at DX12_tick_96 7 rfl
theorem dX12_tick_184 : decode cX12_tick 184 = .ok (.iastore, 1) := decs_at DX12_tick_96 8 rfl
theorem dX12_tick_185 : decode cX12_tick 185 = .ok (.aload_n 0, 1) := decs_at DX12_tick_96 9 rfl
theorem dX12_tick_186 : decode cX12_tick 186 = .ok (.getfield 53, 3) := decs_at DX12_tick_96 10 rfl
theorem dX12_tick_189 : decode cX12_tick 189 = .ok (.iload 5, 2) := decs_at DX12_tick_96 11 rfl
theorem dX12_tick_191 : decode cX12_tick 191 = .ok (.dup2, 1) := decs_at DX12_tick_96 12 rfl
theorem dX12_tick_192 : decode cX12_tick 192 = .ok (.iaload, 1) := decs_at DX12_tick_96 13 rfl
theorem dX12_tick_193 : decode cX12_tick 193 = .ok (.aload_n 0, 1) := decs_at DX12_tick_96 14 rfl
theorem dX12_tick_194 : decode cX12_tick 194 = .ok (.getfield 62, 3) := decs_at DX12_tick_96 15 rfl
theorem dX12_tick_197 : decode cX12_tick 197 = .ok (.iload 5, 2) := decs_at DX12_tick_96 16 rfl
theorem dX12_tick_199 : decode cX12_tick 199 = .ok (.iaload, 1) := decs_at DX12_tick_96 17 rfl
theorem dX12_tick_200 : decode cX12_tick 200 = .ok (.iadd, 1) := decs_at DX12_tick_96 18 rfl
theorem dX12_tick_201 : decode cX12_tick 201 = .ok (.iastore, 1) := decs_at DX12_tick_96 19 rfl
theorem dX12_tick_202 : decode cX12_tick 202 = .ok (.iinc 5 1, 3) := decs_at DX12_tick_96 20 rfl
theorem dX12_tick_205 : decode cX12_tick 205 = .ok (.goto (-48), 3) := decs_at DX12_tick_96 21 rfl
theorem dX12_tick_208 : decode cX12_tick 208 = .ok (.iload_n 1, 1) := decs_at DX12_tick_96 22 rfl
theorem dX12_tick_209 : decode cX12_tick 209 = .ok (.aload_n 0, 1) := decs_at DX12_tick_96 23 rfl
theorem DX12_tick_120 : decs cX12_tick [(210, .getfield 253, 3), (213, .if_icmp .lt 25, 3), (216, .aload_n 0, 1), (217, .getfield 53, 3), (220, .aload_n 0, 1), (221, .getfield 256, 3), (224, .iconst 0, 1), (225, .iastore, 1), (226, .aload_n 0, 1), (227, .getfield 53, 3), (230, .aload_n 0, 1), (231, .getfield 256, 3), (234, .iconst 1, 1), (235, .iadd, 1), (236, .iconst 0, 1), (237, .iastore, 1), (238, .iconst 1, 1), (239, .istore 5, 2), (241, .iload 5, 2), (243, .aload_n 0, 1), (244, .getfield 16, 3), (247, .if_icmp .gt 38, 3), (250, .aload_n 0, 1), (251, .getfield 53, 3)] := by unfold decs; decide +kernel
theorem dX12_tick_210 : decode cX12_tick 210 = .ok (.getfield 253, 3) := decs_at DX12_tick_120 0 rfl
theorem dX12_tick_213 : decode cX12_tick 213 = .ok (.if_icmp .lt 25, 3) := decs_at DX12_tick_120 1 rfl
theorem dX12_tick_216 : decode cX12_tick 216 = .ok (.aload_n 0, 1) := decs_at DX12_tick_120 2 rfl
theorem dX12_tick_217 : decode cX12_tick 217 = .ok (.getfield 53, 3) := decs_at DX12_tick_120 3 rfl
theorem dX12_tick_220 : decode cX12_tick 220 = .ok (.aload_n 0, 1) := decs_at DX12_tick_120 4 rfl
theorem dX12_tick_221 : decode cX12_tick 221 = .ok (.getfield 256, 3) := decs_at DX12_tick_120 5 rfl
theorem dX12_tick_224 : decode cX12_tick 224 = .ok (.iconst 0, 1) := decs_at DX12_tick_120 6 rfl
theorem dX12_tick_225 : decode cX12_tick 225 = .ok (.iastore, 1) := decs_at DX12_tick_120 7 rfl
theorem dX12_tick_226 : decode cX12_tick 226 = .ok (.aload_n 0, 1) := decs_at DX12_tick_120 8 rfl
theorem dX12_tick_227 : decode cX12_tick 227 = .ok (.getfield 53, 3) := decs_at DX12_tick_120 9 rfl
theorem dX12_tick_230 : decode cX12_tick 230 = .ok (.aload_n 0, 1) := decs_at DX12_tick_120 10 rfl
theorem dX12_tick_231 : decode cX12_tick 231 = .ok (.getfield 256, 3) := decs_at DX12_tick_120 11 rfl
theorem dX12_tick_234 : decode cX12_tick 234 = .ok (.iconst 1, 1) := decs_at DX12_tick_120 12 rfl
theorem dX12_tick_235 : decode cX12_tick 235 = .ok (.iadd, 1) := decs_at DX12_tick_120 13 rfl
theorem dX12_tick_236 : decode cX12_tick 236 = .ok (.iconst 0, 1) := decs_at DX12_tick_120 14 rfl
theorem dX12_tick_237 : decode cX12_tick 237 = .ok (.iastore, 1) := decs_at DX12_tick_120 15 rfl
theorem dX12_tick_238 : decode cX12_tick 238 = .ok (.iconst 1, 1) := decs_at DX12_tick_120 16 rfl
theorem dX12_tick_239 : decode cX12_tick 239 = .ok (.istore 5, 2) := decs_at DX12_tick_120 17 rfl
theorem dX12_tick_241 : decode cX12_tick 241 = .ok (.iload 5, 2) := decs_at DX12_tick_120 18 rfl
theorem dX12_tick_243 : decode cX12_tick 243 = .ok (.aload_n 0, 1) := decs_at DX12_tick_120 19 rfl
theorem dX12_tick_244 : decode cX12_tick 244 = .ok (.getfield 16, 3) := decs_at DX12_tick_120 20 rfl
theorem dX12_tick_247 : decode cX12_tick 247 = .ok (.if_icmp .gt 38, 3) := decs_at DX12_tick_120 21 rfl
theorem dX12_tick_250 : decode cX12_tick 250 = .ok (.aload_n 0, 1) := decs_at DX12_tick_120 22 rfl
theorem dX12_tick_251 : decode cX12_tick 251 = .ok (.getfield 53, 3) := decs_at DX12_tick_120 23 rfl
theorem DX12_tick_144 : decs cX12_tick [(254, .iload 5, 2), (256, .dup2, 1), (257, .iaload, 1), (258, .aload_n 0, 1), (259, .getfield 53, 3), (262, .iload 5, 2), (264, .iaload, 1), (265, .aload_n 0, 1), (266, .getfield 44, 3), (269, .iload 5, 2), (271, .iaload, 1), (272, .imul, 1), (273, .sipush 1000, 3), (276, .idiv, 1), (277, .isub, 1), (278, .iastore, 1), (279, .iinc 5 1, 3), (282, .goto (-41), 3), (285, .iconst 1, 1), (286, .istore 5, 2), (288, .iload 5, 2), (290, .aload_n 0, 1), (291, .getfield 16, 3), (294, .if_icmp .gt 25, 3)] := by unfold decs; decide +kernel
theorem dX12_tick_254 : decode cX12_tick 254 = .ok (.iload 5, 2) := decs_at DX12_tick_144 0 rfl
theorem dX12_tick_256 : decode cX12_tick 256 = .ok (.dup2, 1) := decs_at DX12_tick_144 1 rfl
theorem dX12_tick_257 : decode cX12_tick 257 = .ok (.iaload, 1) := decs_at DX12_tick_144 2 rfl
theorem dX12_tick_258 : decode cX12_tick 258 = .ok (.aload_n 0, 1) := decs_at DX12_tick_144 3 rfl
theorem dX12_tick_259 : decode cX12_tick 259 = .ok (.getfield 53, 3) := decs_at DX12_tick_144 4 rfl
theorem dX12_tick_262 : decode cX12_tick 262 = .ok (.iload 5, 2) := decs_at DX12_tick_144 5 rfl
theorem dX12_tick_264 : decode cX12_tick 264 = .ok (.iaload, 1) := decs_at DX12_tick_144 6 rfl
theorem dX12_tick_265 : decode cX12_tick 265 = .ok (.aload_n 0, 1) := decs_at DX12_tick_144 7 rfl
theorem dX12_tick_266 : decode cX12_tick 266 = .ok (.getfield 44, 3) := decs_at DX12_tick_144 8 rfl
theorem dX12_tick_269 : decode cX12_tick 269 = .ok (.iload 5, 2) := decs_at DX12_tick_144 9 rfl
theorem dX12_tick_271 : decode cX12_tick 271 = .ok (.iaload, 1) := decs_at DX12_tick_144 10 rfl
theorem dX12_tick_272 : decode cX12_tick 272 = .ok (.imul, 1) := decs_at DX12_tick_144 11 rfl
theorem dX12_tick_273 : decode cX12_tick 273 = .ok (.sipush 1000, 3) := decs_at DX12_tick_144 12 rfl
theorem dX12_tick_276 : decode cX12_tick 276 = .ok (.idiv, 1) := decs_at DX12_tick_144 13 rfl
theorem dX12_tick_277 : decode cX12_tick 277 = .ok (.isub, 1) := decs_at DX12_tick_144 14 rfl
theorem dX12_tick_278 : decode cX12_tick 278 = .ok (.iastore, 1) := decs_at DX12_tick_144 15 rfl
theorem dX12_tick_279 : decode cX12_tick 279 = .ok (.iinc 5 1, 3) := decs_at DX12_tick_144 16 rfl
theorem dX12_tick_282 : decode cX12_tick 282 = .ok (.goto (-41), 3) := decs_at DX12_tick_144 17 rfl
theorem dX12_tick_285 : decode cX12_tick 285 = .ok (.iconst 1, 1) := decs_at DX12_tick_144 18 rfl
theorem dX12_tick_286 : decode cX12_tick 286 = .ok (.istore 5, 2) := decs_at DX12_tick_144 19 rfl
theorem dX12_tick_288 : decode cX12_tick 288 = .ok (.iload 5, 2) := decs_at DX12_tick_144 20 rfl
theorem dX12_tick_290 : decode cX12_tick 290 = .ok (.aload_n 0, 1) := decs_at DX12_tick_144 21 rfl
theorem dX12_tick_291 : decode cX12_tick 291 = .ok (.getfield 16, 3) := decs_at DX12_tick_144 22 rfl
theorem dX12_tick_294 : decode cX12_tick 294 = .ok (.if_icmp .gt 25, 3) := decs_at DX12_tick_144 23 rfl
theorem DX12_tick_168 : decs cX12_tick [(297, .aload_n 0, 1), (298, .getfield 38, 3), (301, .iload 5, 2), (303, .iaload, 1), (304, .ifCond .ne 9, 3), (307, .aload_n 0, 1), (308, .iload 5, 2), (310, .invokevirtual 275, 3), (313, .iinc 5 1, 3), (316, .goto (-28), 3), (319, .return_, 1)] := by unfold decs; decide +kernel
theorem dX12_tick_297 : decode cX12_tick 297 = .ok (.aload_n 0, 1) := decs_at DX12_tick_168 0 rfl
theorem dX12_tick_298 : decode cX12_tick 298 = .ok (.getfield 38, 3) := decs_at DX12_tick_168 1 rfl
theorem dX12_tick_301 : decode cX12_tick 301 = .ok (.iload 5, 2) := decs_at DX12_tick_168 2 rfl
theorem dX12_tick_303 : decode cX12_tick 303 = .ok (.iaload, 1) := decs_at DX12_tick_168 3 rfl
theorem dX12_tick_304 : decode cX12_tick 304 = .ok (.ifCond .ne 9, 3) := decs_at DX12_tick_168 4 rfl
theorem dX12_tick_307 : decode cX12_tick 307 = .ok (.aload_n 0, 1) := decs_at DX12_tick_168 5 rfl
theorem dX12_tick_308 : decode cX12_tick 308 = .ok (.iload 5, 2) := decs_at DX12_tick_168 6 rfl
theorem dX12_tick_310 : decode cX12_tick 310 = .ok (.invokevirtual 275, 3) := decs_at DX12_tick_168 7 rfl
theorem dX12_tick_313 : decode cX12_tick 313 = .ok (.iinc 5 1, 3) := decs_at DX12_tick_168 8 rfl
theorem dX12_tick_316 : decode cX12_tick 316 = .ok (.goto (-28), 3) := decs_at DX12_tick_168 9 rfl
theorem dX12_tick_319 : decode cX12_tick 319 = .ok (.return_, 1) := decs_at DX12_tick_168 10 rfl
