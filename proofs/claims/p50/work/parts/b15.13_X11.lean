theorem dX11_isStepCount_5 : decode cX11_isStepCount 5 = .ok (.iload_n 1, 1) := by decide +kernel
theorem dX11_isStepCount_6 : decode cX11_isStepCount 6 = .ok (.bipush 99, 2) := by decide +kernel
theorem dX11_isStepCount_8 : decode cX11_isStepCount 8 = .ok (.if_icmp .gt 7, 3) := by decide +kernel
theorem dX11_isStepCount_11 : decode cX11_isStepCount 11 = .ok (.iconst 1, 1) := by decide +kernel
theorem dX11_isStepCount_12 : decode cX11_isStepCount 12 = .ok (.goto 4, 3) := by decide +kernel
theorem dX11_isStepCount_15 : decode cX11_isStepCount 15 = .ok (.iconst 0, 1) := by decide +kernel
theorem dX11_isStepCount_16 : decode cX11_isStepCount 16 = .ok (.ireturn, 1) := by decide +kernel
set_option maxRecDepth 20000 in
theorem ggX11_placeBest_X11_hasFewGroups : GoodIn wsX11_placeBest wsX11_hasFewGroups := goodIn_s _ [(9, 1), (4, 1), (10, 8), (8, 1), (18, 1), (202, 25)] rfl (by decide +kernel)
set_option maxRecDepth 20000 in
theorem gX11_placeBest_X11_hasFewGroups : GoodIn wsX11_placeBest (wsV RX11 212 RX11 yX11_hasFewGroups wsX11_hasFewGroups) := goodIn_app (goodIn_of _ (by decide +kernel)) ggX11_placeBest_X11_hasFewGroups
set_option maxRecDepth 20000 in
theorem ggX11_placeBest_X3_keep : GoodIn wsX11_placeBest wsX3_keep := goodIn_s _ [(23, 10), (22, 1), (33, 5), (13, 1), (38, 1), (16, 1), (39, 3), (15, 1), (42, 3), (8, 1), (45, 6), (227, 3), (220, 7)] rfl (by decide +kernel)
set_option maxRecDepth 20000 in
theorem gX11_placeBest_X3_keep : GoodIn wsX11_placeBest (wsV RX11 149 RX3 yX3_keep wsX3_keep) := goodIn_app (goodIn_of _ (by decide +kernel)) ggX11_placeBest_X3_keep
set_option maxRecDepth 20000 in
theorem ggX11_placeBest_X11_searchBest : GoodIn wsX11_placeBest wsX11_searchBest := goodIn_s _ [(54, 3), (4, 1), (57, 16), (11, 7), (8, 1), (18, 1), (73, 84), (44, 3), (27, 3), (47, 4), (157, 12), (202, 18), (230, 24), (220, 7), (254, 10)] rfl (by decide +kernel)
set_option maxRecDepth 20000 in
theorem gX11_placeBest_X11_searchBest : GoodIn wsX11_placeBest (wsV RX11 236 RX11 yX11_searchBest wsX11_searchBest) := goodIn_app (goodIn_of _ (by decide +kernel)) ggX11_placeBest_X11_searchBest
set_option maxRecDepth 20000 in
theorem ggX11_placeBest_X11_takeBest : GoodIn wsX11_placeBest wsX11_takeBest := goodIn_s _ [(172, 1), (4, 1), (58, 1), (173, 1), (55, 1), (174, 1), (10, 8), (8, 1), (18, 1), (175, 5), (56, 1), (59, 60), (180, 14), (43, 1), (194, 1), (48, 3), (40, 1), (195, 1), (27, 3), (196, 4), (41, 1), (200, 20), (259, 5), (230, 12), (220, 7), (242, 12)] rfl (by decide +kernel)
set_option maxRecDepth 20000 in
theorem gX11_placeBest_X11_takeBest : GoodIn wsX11_placeBest (wsV RX11 239 RX11 yX11_takeBest wsX11_takeBest) := goodIn_app (goodIn_of _ (by decide +kernel)) ggX11_placeBest_X11_takeBest
theorem dX11_placeBest_0 : decode cX11_placeBest 0 = .ok (.aload_n 0, 1) := by decide +kernel
theorem dX11_placeBest_1 : decode cX11_placeBest 1 = .ok (.invokevirtual 212, 3) := by decide +kernel
theorem dX11_placeBest_4 : decode cX11_placeBest 4 = .ok (.ifCond .ne 14, 3) := by decide +kernel
theorem dX11_placeBest_7 : decode cX11_placeBest 7 = .ok (.new 106, 3) := by decide +kernel
theorem dX11_placeBest_10 : decode cX11_placeBest 10 = .ok (.dup, 1) := by decide +kernel
theorem dX11_placeBest_11 : decode cX11_placeBest 11 = .ok (.ldc_w 477, 3) := by decide +kernel
theorem dX11_placeBest_14 : decode cX11_placeBest 14 = .ok (.invokespecial 110, 3) := by decide +kernel
theorem dX11_placeBest_17 : decode cX11_placeBest 17 = .ok (.athrow, 1) := by decide +kernel
theorem dX11_placeBest_18 : decode cX11_placeBest 18 = .ok (.aload_n 0, 1) := by decide +kernel
theorem dX11_placeBest_19 : decode cX11_placeBest 19 = .ok (.getfield 66, 3) := by decide +kernel
theorem dX11_placeBest_22 : decode cX11_placeBest 22 = .ok (.aload_n 0, 1) := by decide +kernel
theorem dX11_placeBest_23 : decode cX11_placeBest 23 = .ok (.getfield 53, 3) := by decide +kernel
theorem dX11_placeBest_26 : decode cX11_placeBest 26 = .ok (.invokevirtual 149, 3) := by decide +kernel
theorem dX11_placeBest_29 : decode cX11_placeBest 29 = .ok (.aload_n 0, 1) := by decide +kernel
theorem dX11_placeBest_30 : decode cX11_placeBest 30 = .ok (.invokevirtual 236, 3) := by decide +kernel
theorem dX11_placeBest_33 : decode cX11_placeBest 33 = .ok (.aload_n 0, 1) := by decide +kernel
theorem dX11_placeBest_34 : decode cX11_placeBest 34 = .ok (.invokevirtual 239, 3) := by decide +kernel
theorem dX11_placeBest_37 : decode cX11_placeBest 37 = .ok (.ireturn, 1) := by decide +kernel
set_option maxRecDepth 20000 in
theorem ggX11_takeBest_X8_groupCount : GoodIn wsX11_takeBest wsX8_groupCount := goodIn_s _ [(10, 6), (148, 7)] rfl (by decide +kernel)
set_option maxRecDepth 20000 in
theorem gX11_takeBest_X8_groupCount : GoodIn wsX11_takeBest (wsV RX11 277 RX8 yX8_groupCount wsX8_groupCount) := goodIn_app (goodIn_of _ (by decide +kernel)) ggX11_takeBest_X8_groupCount
set_option maxRecDepth 20000 in
theorem ggX11_takeBest_X11_at : GoodIn wsX11_takeBest wsX11_at := goodIn_s _ [(15, 1)] rfl (by decide +kernel)
set_option maxRecDepth 20000 in
theorem gX11_takeBest_X11_at : GoodIn wsX11_takeBest (va_wsS RX11 164 yX11_at wsX11_at) := goodIn_app (goodIn_of _ (by decide +kernel)) ggX11_takeBest_X11_at
set_option maxRecDepth 20000 in
theorem ggX11_takeBest_X11_takeTo : GoodIn wsX11_takeBest wsX11_takeTo := goodIn_s _ [(20, 1), (4, 1), (21, 1), (1, 1), (22, 14), (7, 9), (36, 50), (5, 1), (86, 2), (16, 1), (88, 43), (136, 12), (155, 12), (148, 7)] rfl (by decide +kernel)
set_option maxRecDepth 20000 in
theorem gX11_takeBest_X11_takeTo : GoodIn wsX11_takeBest (wsV RX11 228 RX11 yX11_takeTo wsX11_takeTo) := goodIn_app (goodIn_of _ (by decide +kernel)) ggX11_takeBest_X11_takeTo
theorem dX11_takeBest_0 : decode cX11_takeBest 0 = .ok (.iconst 0, 1) := by decide +kernel
theorem dX11_takeBest_1 : decode cX11_takeBest 1 = .ok (.istore_n 1, 1) := by decide +kernel
theorem dX11_takeBest_2 : decode cX11_takeBest 2 = .ok (.aload_n 0, 1) := by decide +kernel
theorem dX11_takeBest_3 : decode cX11_takeBest 3 = .ok (.getfield 53, 3) := by decide +kernel
theorem dX11_takeBest_6 : decode cX11_takeBest 6 = .ok (.invokevirtual 277, 3) := by decide +kernel
theorem dX11_takeBest_9 : decode cX11_takeBest 9 = .ok (.istore_n 2, 1) := by decide +kernel
theorem dX11_takeBest_10 : decode cX11_takeBest 10 = .ok (.iconst 0, 1) := by decide +kernel
theorem dX11_takeBest_11 : decode cX11_takeBest 11 = .ok (.istore_n 3, 1) := by decide +kernel
theorem dX11_takeBest_12 : decode cX11_takeBest 12 = .ok (.iload_n 3, 1) := by decide +kernel
theorem dX11_takeBest_13 : decode cX11_takeBest 13 = .ok (.iload_n 2, 1) := by decide +kernel
theorem dX11_takeBest_14 : decode cX11_takeBest 14 = .ok (.if_icmp .ge 48, 3) := by decide +kernel
theorem dX11_takeBest_17 : decode cX11_takeBest 17 = .ok (.aload_n 0, 1) := by decide +kernel
theorem dX11_takeBest_18 : decode cX11_takeBest 18 = .ok (.getfield 87, 3) := by decide +kernel
theorem dX11_takeBest_21 : decode cX11_takeBest 21 = .ok (.getfield 479, 3) := by decide +kernel
theorem dX11_takeBest_24 : decode cX11_takeBest 24 = .ok (.iload_n 3, 1) := by decide +kernel
theorem dX11_takeBest_25 : decode cX11_takeBest 25 = .ok (.invokestatic 164, 3) := by decide +kernel
theorem dX11_takeBest_28 : decode cX11_takeBest 28 = .ok (.istore 4, 2) := by decide +kernel
theorem dX11_takeBest_30 : decode cX11_takeBest 30 = .ok (.aload_n 0, 1) := by decide +kernel
theorem dX11_takeBest_31 : decode cX11_takeBest 31 = .ok (.getfield 73, 3) := by decide +kernel
theorem dX11_takeBest_34 : decode cX11_takeBest 34 = .ok (.getfield 378, 3) := by decide +kernel
theorem dX11_takeBest_37 : decode cX11_takeBest 37 = .ok (.iload_n 3, 1) := by decide +kernel
theorem dX11_takeBest_38 : decode cX11_takeBest 38 = .ok (.invokestatic 164, 3) := by decide +kernel
theorem dX11_takeBest_41 : decode cX11_takeBest 41 = .ok (.iload 4, 2) := by decide +kernel
theorem dX11_takeBest_43 : decode cX11_takeBest 43 = .ok (.if_icmp .eq 13, 3) := by decide +kernel
theorem dX11_takeBest_46 : decode cX11_takeBest 46 = .ok (.aload_n 0, 1) := by decide +kernel
theorem dX11_takeBest_47 : decode cX11_takeBest 47 = .ok (.iload_n 3, 1) := by decide +kernel
theorem dX11_takeBest_48 : decode cX11_takeBest 48 = .ok (.iload 4, 2) := by decide +kernel
theorem dX11_takeBest_50 : decode cX11_takeBest 50 = .ok (.invokevirtual 228, 3) := by decide +kernel
theorem dX11_takeBest_53 : decode cX11_takeBest 53 = .ok (.iinc 1 1, 3) := by decide +kernel
theorem dX11_takeBest_56 : decode cX11_takeBest 56 = .ok (.iinc 3 1, 3) := by decide +kernel
theorem dX11_takeBest_59 : decode cX11_takeBest 59 = .ok (.goto (-47), 3) := by decide +kernel
theorem dX11_takeBest_62 : decode cX11_takeBest 62 = .ok (.iload_n 1, 1) := by decide +kernel
theorem dX11_takeBest_63 : decode cX11_takeBest 63 = .ok (.ireturn, 1) := by decide +kernel
set_option maxRecDepth 20000 in
theorem ggX11_placeApart_X11_requireVertex : GoodIn wsX11_placeApart wsX11_requireVertex := goodIn_ca (goodIn_s _ [(11, 6), (10, 1), (17, 3), (194, 30)] rfl (by decide +kernel)) (goodIn_sub (fun _ h => List.mem_cons_of_mem _ (List.mem_append_right _ h)) (by decide +kernel))
set_option maxRecDepth 20000 in
theorem gX11_placeApart_X11_requireVertex : GoodIn wsX11_placeApart (wsV RX11 297 RX11 yX11_requireVertex wsX11_requireVertex) := goodIn_app (goodIn_of _ (by decide +kernel)) ggX11_placeApart_X11_requireVertex
set_option maxRecDepth 20000 in
theorem ggX11_placeApart_X11_canTakeApart : GoodIn wsX11_placeApart wsX11_canTakeApart := goodIn_s _ [(23, 1), (18, 1), (24, 1), (6, 1), (25, 1), (194, 37)] rfl (by decide +kernel)
set_option maxRecDepth 20000 in
theorem gX11_placeApart_X11_canTakeApart : GoodIn wsX11_placeApart (wsV RX11 219 RX11 yX11_canTakeApart wsX11_canTakeApart) := goodIn_app (goodIn_of _ (by decide +kernel)) ggX11_placeApart_X11_canTakeApart
set_option maxRecDepth 20000 in
theorem ggX11_placeApart_X3_keep : GoodIn wsX11_placeApart wsX3_keep := goodIn_s _ [(30, 10), (29, 1), (40, 15), (10, 1), (55, 6), (231, 3), (224, 7)] rfl (by decide +kernel)
set_option maxRecDepth 20000 in
theorem gX11_placeApart_X3_keep : GoodIn wsX11_placeApart (wsV RX11 149 RX3 yX3_keep wsX3_keep) := goodIn_app (goodIn_of _ (by decide +kernel)) ggX11_placeApart_X3_keep
set_option maxRecDepth 20000 in
theorem ggX11_placeApart_X11_takeApart : GoodIn wsX11_placeApart wsX11_takeApart := goodIn_s _ [(64, 2), (18, 2), (66, 1), (6, 1), (67, 24), (10, 1), (91, 19), (34, 3), (110, 23), (45, 1), (133, 1), (51, 1), (47, 1), (134, 54), (53, 1), (188, 1), (58, 3), (49, 1), (189, 5), (50, 1), (194, 30), (234, 6), (224, 7), (240, 12)] rfl (by decide +kernel)
set_option maxRecDepth 20000 in
theorem gX11_placeApart_X11_takeApart : GoodIn wsX11_placeApart (wsV RX11 242 RX11 yX11_takeApart wsX11_takeApart) := goodIn_app (goodIn_of _ (by decide +kernel)) ggX11_placeApart_X11_takeApart
theorem dX11_placeApart_0 : decode cX11_placeApart 0 = .ok (.aload_n 0, 1) := by decide +kernel
theorem dX11_placeApart_1 : decode cX11_placeApart 1 = .ok (.iload_n 1, 1) := by decide +kernel
theorem dX11_placeApart_2 : decode cX11_placeApart 2 = .ok (.invokevirtual 297, 3) := by decide +kernel
theorem dX11_placeApart_5 : decode cX11_placeApart 5 = .ok (.aload_n 0, 1) := by decide +kernel
theorem dX11_placeApart_6 : decode cX11_placeApart 6 = .ok (.iload_n 2, 1) := by decide +kernel
theorem dX11_placeApart_7 : decode cX11_placeApart 7 = .ok (.invokevirtual 297, 3) := by decide +kernel
theorem dX11_placeApart_10 : decode cX11_placeApart 10 = .ok (.iload_n 1, 1) := by decide +kernel
theorem dX11_placeApart_11 : decode cX11_placeApart 11 = .ok (.iload_n 2, 1) := by decide +kernel
theorem dX11_placeApart_12 : decode cX11_placeApart 12 = .ok (.if_icmp .ne 14, 3) := by decide +kernel
theorem dX11_placeApart_15 : decode cX11_placeApart 15 = .ok (.new 117, 3) := by decide +kernel
theorem dX11_placeApart_18 : decode cX11_placeApart 18 = .ok (.dup, 1) := by decide +kernel
theorem dX11_placeApart_19 : decode cX11_placeApart 19 = .ok (.ldc_w 482, 3) := by decide +kernel
theorem dX11_placeApart_22 : decode cX11_placeApart 22 = .ok (.invokespecial 121, 3) := by decide +kernel
theorem dX11_placeApart_25 : decode cX11_placeApart 25 = .ok (.athrow, 1) := by decide +kernel
theorem dX11_placeApart_26 : decode cX11_placeApart 26 = .ok (.aload_n 0, 1) := by decide +kernel
theorem dX11_placeApart_27 : decode cX11_placeApart 27 = .ok (.invokevirtual 219, 3) := by decide +kernel
theorem dX11_placeApart_30 : decode cX11_placeApart 30 = .ok (.ifCond .ne 14, 3) := by decide +kernel
theorem dX11_placeApart_33 : decode cX11_placeApart 33 = .ok (.new 106, 3) := by decide +kernel
theorem dX11_placeApart_36 : decode cX11_placeApart 36 = .ok (.dup, 1) := by decide +kernel
theorem dX11_placeApart_37 : decode cX11_placeApart 37 = .ok (.ldc_w 484, 3) := by decide +kernel
theorem dX11_placeApart_40 : decode cX11_placeApart 40 = .ok (.invokespecial 110, 3) := by decide +kernel
theorem dX11_placeApart_43 : decode cX11_placeApart 43 = .ok (.athrow, 1) := by decide +kernel
theorem dX11_placeApart_44 : decode cX11_placeApart 44 = .ok (.aload_n 0, 1) := by decide +kernel
theorem dX11_placeApart_45 : decode cX11_placeApart 45 = .ok (.getfield 66, 3) := by decide +kernel
theorem dX11_placeApart_48 : decode cX11_placeApart 48 = .ok (.aload_n 0, 1) := by decide +kernel
theorem dX11_placeApart_49 : decode cX11_placeApart 49 = .ok (.getfield 53, 3) := by decide +kernel
theorem dX11_placeApart_52 : decode cX11_placeApart 52 = .ok (.invokevirtual 149, 3) := by decide +kernel
theorem dX11_placeApart_55 : decode cX11_placeApart 55 = .ok (.aload_n 0, 1) := by decide +kernel
theorem dX11_placeApart_56 : decode cX11_placeApart 56 = .ok (.iload_n 1, 1) := by decide +kernel
theorem dX11_placeApart_57 : decode cX11_placeApart 57 = .ok (.iload_n 2, 1) := by decide +kernel
theorem dX11_placeApart_58 : decode cX11_placeApart 58 = .ok (.invokevirtual 242, 3) := by decide +kernel
theorem dX11_placeApart_61 : decode cX11_placeApart 61 = .ok (.ireturn, 1) := by decide +kernel
theorem dX11_canTakeApart_0 : decode cX11_canTakeApart 0 = .ok (.aload_n 0, 1) := by decide +kernel
theorem dX11_canTakeApart_1 : decode cX11_canTakeApart 1 = .ok (.getfield 40, 3) := by decide +kernel
theorem dX11_canTakeApart_4 : decode cX11_canTakeApart 4 = .ok (.getfield 262, 3) := by decide +kernel
theorem dX11_canTakeApart_7 : decode cX11_canTakeApart 7 = .ok (.iconst 2, 1) := by decide +kernel
theorem dX11_canTakeApart_8 : decode cX11_canTakeApart 8 = .ok (.if_icmp .ne 17, 3) := by decide +kernel
theorem dX11_canTakeApart_11 : decode cX11_canTakeApart 11 = .ok (.aload_n 0, 1) := by decide +kernel
theorem dX11_canTakeApart_12 : decode cX11_canTakeApart 12 = .ok (.getfield 53, 3) := by decide +kernel
theorem dX11_canTakeApart_15 : decode cX11_canTakeApart 15 = .ok (.getfield 192, 3) := by decide +kernel
theorem dX11_canTakeApart_18 : decode cX11_canTakeApart 18 = .ok (.ifCond .ne 7, 3) := by decide +kernel
theorem dX11_canTakeApart_21 : decode cX11_canTakeApart 21 = .ok (.iconst 1, 1) := by decide +kernel
theorem dX11_canTakeApart_22 : decode cX11_canTakeApart 22 = .ok (.goto 4, 3) := by decide +kernel
theorem dX11_canTakeApart_25 : decode cX11_canTakeApart 25 = .ok (.iconst 0, 1) := by decide +kernel
theorem dX11_canTakeApart_26 : decode cX11_canTakeApart 26 = .ok (.ireturn, 1) := by decide +kernel
set_option maxRecDepth 20000 in
theorem ggX11_takeApart_X1_run : GoodIn wsX11_takeApart wsX1_run := goodIn_s _ [(11, 6), (10, 1), (17, 36), (176, 6), (164, 12)] rfl (by decide +kernel)
set_option maxRecDepth 20000 in
theorem gX11_takeApart_X1_run : GoodIn wsX11_takeApart (wsV RX11 320 RX1 yX1_run wsX1_run) := goodIn_app (goodIn_of _ (by decide +kernel)) ggX11_takeApart_X1_run
set_option maxRecDepth 20000 in
theorem ggX11_takeApart_X11_isIn : GoodIn wsX11_takeApart wsX11_isIn := goodIn_s _ [(44, 1)] rfl (by decide +kernel)
set_option maxRecDepth 20000 in
theorem gX11_takeApart_X11_isIn : GoodIn wsX11_takeApart (va_wsS RX11 486 yX11_isIn wsX11_isIn) := goodIn_app (goodIn_of _ (by decide +kernel)) ggX11_takeApart_X11_isIn
set_option maxRecDepth 20000 in
theorem ggX11_takeApart_X11_at : GoodIn wsX11_takeApart wsX11_at := goodIn_s _ [(31, 1)] rfl (by decide +kernel)
set_option maxRecDepth 20000 in
theorem gX11_takeApart_X11_at : GoodIn wsX11_takeApart (va_wsS RX11 164 yX11_at wsX11_at) := goodIn_app (goodIn_of _ (by decide +kernel)) ggX11_takeApart_X11_at
set_option maxRecDepth 20000 in
theorem ggX11_takeApart_X11_takeTo : GoodIn wsX11_takeApart wsX11_takeTo := goodIn_s _ [(58, 2), (2, 1), (5, 1), (60, 20), (29, 3), (80, 21), (26, 3), (101, 4), (32, 2), (41, 2), (105, 21), (54, 1), (126, 15), (50, 3), (141, 5), (43, 2), (146, 18), (189, 12), (164, 12), (182, 7)] rfl (by decide +kernel)
set_option maxRecDepth 20000 in
theorem gX11_takeApart_X11_takeTo : GoodIn wsX11_takeApart (wsV RX11 228 RX11 yX11_takeTo wsX11_takeTo) := goodIn_app (goodIn_of _ (by decide +kernel)) ggX11_takeApart_X11_takeTo
theorem dX11_takeApart_0 : decode cX11_takeApart 0 = .ok (.aload_n 0, 1) := by decide +kernel
theorem dX11_takeApart_1 : decode cX11_takeApart 1 = .ok (.getfield 94, 3) := by decide +kernel
theorem dX11_takeApart_4 : decode cX11_takeApart 4 = .ok (.aload_n 0, 1) := by decide +kernel
theorem dX11_takeApart_5 : decode cX11_takeApart 5 = .ok (.getfield 40, 3) := by decide +kernel
theorem dX11_takeApart_8 : decode cX11_takeApart 8 = .ok (.iload_n 1, 1) := by decide +kernel
theorem dX11_takeApart_9 : decode cX11_takeApart 9 = .ok (.iload_n 2, 1) := by decide +kernel
theorem dX11_takeApart_10 : decode cX11_takeApart 10 = .ok (.invokevirtual 320, 3) := by decide +kernel
theorem dX11_takeApart_13 : decode cX11_takeApart 13 = .ok (.iconst 0, 1) := by decide +kernel
theorem dX11_takeApart_14 : decode cX11_takeApart 14 = .ok (.istore_n 3, 1) := by decide +kernel
theorem dX11_takeApart_15 : decode cX11_takeApart 15 = .ok (.iconst 0, 1) := by decide +kernel
theorem dX11_takeApart_16 : decode cX11_takeApart 16 = .ok (.istore 4, 2) := by decide +kernel
theorem dX11_takeApart_18 : decode cX11_takeApart 18 = .ok (.iload 4, 2) := by decide +kernel
theorem dX11_takeApart_20 : decode cX11_takeApart 20 = .ok (.aload_n 0, 1) := by decide +kernel
theorem dX11_takeApart_21 : decode cX11_takeApart 21 = .ok (.getfield 40, 3) := by decide +kernel
theorem dX11_takeApart_24 : decode cX11_takeApart 24 = .ok (.getfield 141, 3) := by decide +kernel
theorem dX11_takeApart_27 : decode cX11_takeApart 27 = .ok (.if_icmp .ge 59, 3) := by decide +kernel
theorem dX11_takeApart_30 : decode cX11_takeApart 30 = .ok (.aload_n 0, 1) := by decide +kernel
theorem dX11_takeApart_31 : decode cX11_takeApart 31 = .ok (.getfield 94, 3) := by decide +kernel
theorem dX11_takeApart_34 : decode cX11_takeApart 34 = .ok (.getfield 327, 3) := by decide +kernel
theorem dX11_takeApart_37 : decode cX11_takeApart 37 = .ok (.iload 4, 2) := by decide +kernel
theorem dX11_takeApart_39 : decode cX11_takeApart 39 = .ok (.invokestatic 486, 3) := by decide +kernel
theorem dX11_takeApart_42 : decode cX11_takeApart 42 = .ok (.ifCond .eq 7, 3) := by decide +kernel
theorem dX11_takeApart_45 : decode cX11_takeApart 45 = .ok (.iconst 0, 1) := by decide +kernel
theorem dX11_takeApart_46 : decode cX11_takeApart 46 = .ok (.goto 4, 3) := by decide +kernel
theorem dX11_takeApart_49 : decode cX11_takeApart 49 = .ok (.iconst 1, 1) := by decide +kernel
theorem dX11_takeApart_50 : decode cX11_takeApart 50 = .ok (.istore 5, 2) := by decide +kernel
theorem dX11_takeApart_52 : decode cX11_takeApart 52 = .ok (.aload_n 0, 1) := by decide +kernel
theorem dX11_takeApart_53 : decode cX11_takeApart 53 = .ok (.getfield 53, 3) := by decide +kernel
theorem dX11_takeApart_56 : decode cX11_takeApart 56 = .ok (.getfield 315, 3) := by decide +kernel
theorem dX11_takeApart_59 : decode cX11_takeApart 59 = .ok (.iload 4, 2) := by decide +kernel
theorem dX11_takeApart_61 : decode cX11_takeApart 61 = .ok (.invokestatic 164, 3) := by decide +kernel
theorem dX11_takeApart_64 : decode cX11_takeApart 64 = .ok (.iload 5, 2) := by decide +kernel
theorem dX11_takeApart_66 : decode cX11_takeApart 66 = .ok (.if_icmp .eq 14, 3) := by decide +kernel
theorem dX11_takeApart_69 : decode cX11_takeApart 69 = .ok (.aload_n 0, 1) := by decide +kernel
theorem dX11_takeApart_70 : decode cX11_takeApart 70 = .ok (.iload 4, 2) := by decide +kernel
theorem dX11_takeApart_72 : decode cX11_takeApart 72 = .ok (.iload 5, 2) := by decide +kernel
theorem dX11_takeApart_74 : decode cX11_takeApart 74 = .ok (.invokevirtual 228, 3) := by decide +kernel
theorem dX11_takeApart_77 : decode cX11_takeApart 77 = .ok (.iinc 3 1, 3) := by decide +kernel
theorem dX11_takeApart_80 : decode cX11_takeApart 80 = .ok (.iinc 4 1, 3) := by decide +kernel
theorem dX11_takeApart_83 : decode cX11_takeApart 83 = .ok (.goto (-65), 3) := by decide +kernel
theorem dX11_takeApart_86 : decode cX11_takeApart 86 = .ok (.iload_n 3, 1) := by decide +kernel
theorem dX11_takeApart_87 : decode cX11_takeApart 87 = .ok (.ireturn, 1) := by decide +kernel
set_option maxRecDepth 20000 in
theorem ggX11_setCredit_X11_isAllowance : GoodIn wsX11_setCredit wsX11_isAllowance := goodIn_s _ [(10, 1)] rfl (by decide +kernel)
set_option maxRecDepth 20000 in
theorem gX11_setCredit_X11_isAllowance : GoodIn wsX11_setCredit (wsV RX11 222 RX11 yX11_isAllowance wsX11_isAllowance) := goodIn_app (goodIn_of _ (by decide +kernel)) ggX11_setCredit_X11_isAllowance
set_option maxRecDepth 20000 in
theorem ggX11_setCredit_X3_keep : GoodIn wsX11_setCredit wsX3_keep := goodIn_s _ [(15, 10), (14, 1), (25, 15), (9, 1), (40, 6), (71, 3), (64, 7)] rfl (by decide +kernel)
set_option maxRecDepth 20000 in
theorem gX11_setCredit_X3_keep : GoodIn wsX11_setCredit (wsV RX11 149 RX3 yX3_keep wsX3_keep) := goodIn_app (goodIn_of _ (by decide +kernel)) ggX11_setCredit_X3_keep
theorem dX11_setCredit_0 : decode cX11_setCredit 0 = .ok (.aload_n 0, 1) := by decide +kernel
theorem dX11_setCredit_1 : decode cX11_setCredit 1 = .ok (.iload_n 1, 1) := by decide +kernel
theorem dX11_setCredit_2 : decode cX11_setCredit 2 = .ok (.invokevirtual 222, 3) := by decide +kernel
theorem dX11_setCredit_5 : decode cX11_setCredit 5 = .ok (.ifCond .ne 14, 3) := by decide +kernel
theorem dX11_setCredit_8 : decode cX11_setCredit 8 = .ok (.new 117, 3) := by decide +kernel
theorem dX11_setCredit_11 : decode cX11_setCredit 11 = .ok (.dup, 1) := by decide +kernel
theorem dX11_setCredit_12 : decode cX11_setCredit 12 = .ok (.ldc_w 490, 3) := by decide +kernel
theorem dX11_setCredit_15 : decode cX11_setCredit 15 = .ok (.invokespecial 121, 3) := by decide +kernel
theorem dX11_setCredit_18 : decode cX11_setCredit 18 = .ok (.athrow, 1) := by decide +kernel
theorem dX11_setCredit_19 : decode cX11_setCredit 19 = .ok (.aload_n 0, 1) := by decide +kernel
theorem dX11_setCredit_20 : decode cX11_setCredit 20 = .ok (.getfield 66, 3) := by decide +kernel
theorem dX11_setCredit_23 : decode cX11_setCredit 23 = .ok (.aload_n 0, 1) := by decide +kernel
theorem dX11_setCredit_24 : decode cX11_setCredit 24 = .ok (.getfield 53, 3) := by decide +kernel
theorem dX11_setCredit_27 : decode cX11_setCredit 27 = .ok (.invokevirtual 149, 3) := by decide +kernel
theorem dX11_setCredit_30 : decode cX11_setCredit 30 = .ok (.aload_n 0, 1) := by decide +kernel
theorem dX11_setCredit_31 : decode cX11_setCredit 31 = .ok (.getfield 53, 3) := by decide +kernel
theorem dX11_setCredit_34 : decode cX11_setCredit 34 = .ok (.getfield 245, 3) := by decide +kernel
theorem dX11_setCredit_37 : decode cX11_setCredit 37 = .ok (.istore_n 2, 1) := by decide +kernel
theorem dX11_setCredit_38 : decode cX11_setCredit 38 = .ok (.aload_n 0, 1) := by decide +kernel
theorem dX11_setCredit_39 : decode cX11_setCredit 39 = .ok (.getfield 53, 3) := by decide +kernel
theorem dX11_setCredit_42 : decode cX11_setCredit 42 = .ok (.iload_n 1, 1) := by decide +kernel
theorem dX11_setCredit_43 : decode cX11_setCredit 43 = .ok (.putfield 245, 3) := by decide +kernel
theorem dX11_setCredit_46 : decode cX11_setCredit 46 = .ok (.iload_n 2, 1) := by decide +kernel
theorem dX11_setCredit_47 : decode cX11_setCredit 47 = .ok (.ireturn, 1) := by decide +kernel
theorem dX11_isAllowance_0 : decode cX11_isAllowance 0 = .ok (.iload_n 1, 1) := by decide +kernel
theorem dX11_isAllowance_1 : decode cX11_isAllowance 1 = .ok (.ifCond .lt 13, 3) := by decide +kernel
theorem dX11_isAllowance_4 : decode cX11_isAllowance 4 = .ok (.iload_n 1, 1) := by decide +kernel
theorem dX11_isAllowance_5 : decode cX11_isAllowance 5 = .ok (.bipush 99, 2) := by decide +kernel
theorem dX11_isAllowance_7 : decode cX11_isAllowance 7 = .ok (.if_icmp .gt 7, 3) := by decide +kernel
theorem dX11_isAllowance_10 : decode cX11_isAllowance 10 = .ok (.iconst 1, 1) := by decide +kernel
theorem dX11_isAllowance_11 : decode cX11_isAllowance 11 = .ok (.goto 4, 3) := by decide +kernel
theorem dX11_isAllowance_14 : decode cX11_isAllowance 14 = .ok (.iconst 0, 1) := by decide +kernel
theorem dX11_isAllowance_15 : decode cX11_isAllowance 15 = .ok (.ireturn, 1) := by decide +kernel
set_option maxRecDepth 20000 in
theorem ggX11_undo_X3_takeBack : GoodIn wsX11_undo wsX3_takeBack := goodIn_s _ [(8, 6), (7, 1), (14, 25), (57, 10)] rfl (by decide +kernel)
set_option maxRecDepth 20000 in
theorem gX11_undo_X3_takeBack : GoodIn wsX11_undo (wsV RX11 519 RX3 yX3_takeBack wsX3_takeBack) := goodIn_app (goodIn_of _ (by decide +kernel)) ggX11_undo_X3_takeBack
theorem dX11_undo_0 : decode cX11_undo 0 = .ok (.aload_n 0, 1) := by decide +kernel
theorem dX11_undo_1 : decode cX11_undo 1 = .ok (.getfield 66, 3) := by decide +kernel
theorem dX11_undo_4 : decode cX11_undo 4 = .ok (.aload_n 0, 1) := by decide +kernel
theorem dX11_undo_5 : decode cX11_undo 5 = .ok (.getfield 53, 3) := by decide +kernel
theorem dX11_undo_8 : decode cX11_undo 8 = .ok (.invokevirtual 519, 3) := by decide +kernel
theorem dX11_undo_11 : decode cX11_undo 11 = .ok (.ifCond .eq 13, 3) := by decide +kernel
theorem dX11_undo_14 : decode cX11_undo 14 = .ok (.aload_n 0, 1) := by decide +kernel
theorem dX11_undo_15 : decode cX11_undo 15 = .ok (.getfield 66, 3) := by decide +kernel
theorem dX11_undo_18 : decode cX11_undo 18 = .ok (.getfield 280, 3) := by decide +kernel
theorem dX11_undo_21 : decode cX11_undo 21 = .ok (.goto 4, 3) := by decide +kernel
theorem dX11_undo_24 : decode cX11_undo 24 = .ok (.iconst (-1), 1) := by decide +kernel
theorem dX11_undo_25 : decode cX11_undo 25 = .ok (.ireturn, 1) := by decide +kernel
theorem dX11_at_0 : decode cX11_at 0 = .ok (.iload_n 1, 1) := by decide +kernel
theorem dX11_at_1 : decode cX11_at 1 = .ok (.ifCond .lt 15, 3) := by decide +kernel
theorem dX11_at_4 : decode cX11_at 4 = .ok (.iload_n 1, 1) := by decide +kernel
theorem dX11_at_5 : decode cX11_at 5 = .ok (.aload_n 0, 1) := by decide +kernel
theorem dX11_at_6 : decode cX11_at 6 = .ok (.arraylength, 1) := by decide +kernel
theorem dX11_at_7 : decode cX11_at 7 = .ok (.if_icmp .ge 9, 3) := by decide +kernel
theorem dX11_at_10 : decode cX11_at 10 = .ok (.aload_n 0, 1) := by decide +kernel
theorem dX11_at_11 : decode cX11_at 11 = .ok (.iload_n 1, 1) := by decide +kernel
theorem dX11_at_12 : decode cX11_at 12 = .ok (.iaload, 1) := by decide +kernel
theorem dX11_at_13 : decode cX11_at 13 = .ok (.goto 4, 3) := by decide +kernel
theorem dX11_at_16 : decode cX11_at 16 = .ok (.iconst 0, 1) := by decide +kernel
theorem dX11_at_17 : decode cX11_at 17 = .ok (.ireturn, 1) := by decide +kernel
theorem dX11_put_0 : decode cX11_put 0 = .ok (.iload_n 1, 1) := by decide +kernel
theorem dX11_put_1 : decode cX11_put 1 = .ok (.ifCond .lt 13, 3) := by decide +kernel
theorem dX11_put_4 : decode cX11_put 4 = .ok (.iload_n 1, 1) := by decide +kernel
theorem dX11_put_5 : decode cX11_put 5 = .ok (.aload_n 0, 1) := by decide +kernel
theorem dX11_put_6 : decode cX11_put 6 = .ok (.arraylength, 1) := by decide +kernel
theorem dX11_put_7 : decode cX11_put 7 = .ok (.if_icmp .ge 7, 3) := by decide +kernel
theorem dX11_put_10 : decode cX11_put 10 = .ok (.aload_n 0, 1) := by decide +kernel
theorem dX11_put_11 : decode cX11_put 11 = .ok (.iload_n 1, 1) := by decide +kernel
theorem dX11_put_12 : decode cX11_put 12 = .ok (.iload_n 2, 1) := by decide +kernel
theorem dX11_put_13 : decode cX11_put 13 = .ok (.iastore, 1) := by decide +kernel
theorem dX11_put_14 : decode cX11_put 14 = .ok (.return_, 1) := by decide +kernel
theorem dX11_add_0 : decode cX11_add 0 = .ok (.iload_n 1, 1) := by decide +kernel
theorem dX11_add_1 : decode cX11_add 1 = .ok (.ifCond .lt 16, 3) := by decide +kernel
theorem dX11_add_4 : decode cX11_add 4 = .ok (.iload_n 1, 1) := by decide +kernel
theorem dX11_add_5 : decode cX11_add 5 = .ok (.aload_n 0, 1) := by decide +kernel
theorem dX11_add_6 : decode cX11_add 6 = .ok (.arraylength, 1) := by decide +kernel
theorem dX11_add_7 : decode cX11_add 7 = .ok (.if_icmp .ge 10, 3) := by decide +kernel
theorem dX11_add_10 : decode cX11_add 10 = .ok (.aload_n 0, 1) := by decide +kernel
theorem dX11_add_11 : decode cX11_add 11 = .ok (.iload_n 1, 1) := by decide +kernel
theorem dX11_add_12 : decode cX11_add 12 = .ok (.dup2, 1) := by decide +kernel
theorem dX11_add_13 : decode cX11_add 13 = .ok (.iaload, 1) := by decide +kernel
theorem dX11_add_14 : decode cX11_add 14 = .ok (.iload_n 2, 1) := by decide +kernel
theorem dX11_add_15 : decode cX11_add 15 = .ok (.iadd, 1) := by decide +kernel
theorem dX11_add_16 : decode cX11_add 16 = .ok (.iastore, 1) := by decide +kernel
theorem dX11_add_17 : decode cX11_add 17 = .ok (.return_, 1) := by decide +kernel
theorem dX11_copy_0 : decode cX11_copy 0 = .ok (.aload_n 0, 1) := by decide +kernel
theorem dX11_copy_1 : decode cX11_copy 1 = .ok (.iconst 0, 1) := by decide +kernel
theorem dX11_copy_2 : decode cX11_copy 2 = .ok (.aload_n 1, 1) := by decide +kernel
theorem dX11_copy_3 : decode cX11_copy 3 = .ok (.iconst 0, 1) := by decide +kernel
theorem dX11_copy_4 : decode cX11_copy 4 = .ok (.aload_n 0, 1) := by decide +kernel
theorem dX11_copy_5 : decode cX11_copy 5 = .ok (.arraylength, 1) := by decide +kernel
theorem dX11_copy_6 : decode cX11_copy 6 = .ok (.aload_n 1, 1) := by decide +kernel
theorem dX11_copy_7 : decode cX11_copy 7 = .ok (.arraylength, 1) := by decide +kernel
theorem dX11_copy_8 : decode cX11_copy 8 = .ok (.invokestatic 528, 3) := by decide +kernel
theorem dX11_copy_11 : decode cX11_copy 11 = .ok (.invokestatic 533, 3) := by decide +kernel
theorem dX11_copy_14 : decode cX11_copy 14 = .ok (.return_, 1) := by decide +kernel
theorem dX11_isIn_0 : decode cX11_isIn 0 = .ok (.iload_n 0, 1) := by decide +kernel
theorem dX11_isIn_1 : decode cX11_isIn 1 = .ok (.iload_n 1, 1) := by decide +kernel
theorem dX11_isIn_2 : decode cX11_isIn 2 = .ok (.iushr, 1) := by decide +kernel
theorem dX11_isIn_3 : decode cX11_isIn 3 = .ok (.iconst 1, 1) := by decide +kernel
theorem dX11_isIn_4 : decode cX11_isIn 4 = .ok (.iand, 1) := by decide +kernel
theorem dX11_isIn_5 : decode cX11_isIn 5 = .ok (.ifCond .eq 7, 3) := by decide +kernel
theorem dX11_isIn_8 : decode cX11_isIn 8 = .ok (.iconst 1, 1) := by decide +kernel
theorem dX11_isIn_9 : decode cX11_isIn 9 = .ok (.goto 4, 3) := by decide +kernel
theorem dX11_isIn_12 : decode cX11_isIn 12 = .ok (.iconst 0, 1) := by decide +kernel
theorem dX11_isIn_13 : decode cX11_isIn 13 = .ok (.ireturn, 1) := by decide +kernel
