theorem dX11_steps_0 : decode cX11_steps 0 = .ok (.aload_n 0, 1) := by decide +kernel
theorem dX11_steps_1 : decode cX11_steps 1 = .ok (.iload_n 1, 1) := by decide +kernel
theorem dX11_steps_2 : decode cX11_steps 2 = .ok (.invokevirtual 209, 3) := by decide +kernel
theorem dX11_steps_5 : decode cX11_steps 5 = .ok (.ifCond .ne 14, 3) := by decide +kernel
theorem dX11_steps_8 : decode cX11_steps 8 = .ok (.new 117, 3) := by decide +kernel
theorem dX11_steps_11 : decode cX11_steps 11 = .ok (.dup, 1) := by decide +kernel
theorem dX11_steps_12 : decode cX11_steps 12 = .ok (.ldc_w 475, 3) := by decide +kernel
theorem dX11_steps_15 : decode cX11_steps 15 = .ok (.invokespecial 121, 3) := by decide +kernel
theorem dX11_steps_18 : decode cX11_steps 18 = .ok (.athrow, 1) := by decide +kernel
theorem dX11_steps_19 : decode cX11_steps 19 = .ok (.aload_n 0, 1) := by decide +kernel
theorem dX11_steps_20 : decode cX11_steps 20 = .ok (.getfield 66, 3) := by decide +kernel
theorem dX11_steps_23 : decode cX11_steps 23 = .ok (.aload_n 0, 1) := by decide +kernel
theorem dX11_steps_24 : decode cX11_steps 24 = .ok (.getfield 53, 3) := by decide +kernel
theorem dX11_steps_27 : decode cX11_steps 27 = .ok (.invokevirtual 149, 3) := by decide +kernel
theorem dX11_steps_30 : decode cX11_steps 30 = .ok (.aload_n 0, 1) := by decide +kernel
theorem dX11_steps_31 : decode cX11_steps 31 = .ok (.aload_n 0, 1) := by decide +kernel
theorem dX11_steps_32 : decode cX11_steps 32 = .ok (.getfield 53, 3) := by decide +kernel
theorem dX11_steps_35 : decode cX11_steps 35 = .ok (.iload_n 1, 1) := by decide +kernel
theorem dX11_steps_36 : decode cX11_steps 36 = .ok (.invokevirtual 232, 3) := by decide +kernel
theorem dX11_steps_39 : decode cX11_steps 39 = .ok (.ireturn, 1) := by decide +kernel
theorem dX11_isStepCount_0 : decode cX11_isStepCount 0 = .ok (.iload_n 1, 1) := by decide +kernel
theorem dX11_isStepCount_1 : decode cX11_isStepCount 1 = .ok (.iconst 1, 1) := by decide +kernel
theorem dX11_isStepCount_2 : decode cX11_isStepCount 2 = .ok (.if_icmp .lt 13, 3) := by decide +kernel
theorem dX11_isStepCount_5 : decode cX11_isStepCount 5 = .ok (.iload_n 1, 1) := by decide +kernel
theorem dX11_isStepCount_6 : decode cX11_isStepCount 6 = .ok (.bipush 99, 2) := by decide +kernel
theorem dX11_isStepCount_8 : decode cX11_isStepCount 8 = .ok (.if_icmp .gt 7, 3) := by decide +kernel
theorem dX11_isStepCount_11 : decode cX11_isStepCount 11 = .ok (.iconst 1, 1) := by decide +kernel
theorem dX11_isStepCount_12 : decode cX11_isStepCount 12 = .ok (.goto 4, 3) := by decide +kernel
theorem dX11_isStepCount_15 : decode cX11_isStepCount 15 = .ok (.iconst 0, 1) := by decide +kernel
theorem dX11_isStepCount_16 : decode cX11_isStepCount 16 = .ok (.ireturn, 1) := by decide +kernel
set_option maxRecDepth 20000 in
theorem ggX11_placeBest_X11_hasFewGroups : GoodIn wsX11_placeBest wsX11_hasFewGroups := goodIn_s _ [(9, 1), (4, 1), (10, 8), (8, 1), (18, 1), (202, 25)] rfl (by decide +kernel)
set_option maxRecDepth 20000 in
theorem gX11_placeBest_X11_hasFewGroups : GoodIn wsX11_placeBest (wsV RX11 212 RX11 yX11_hasFewGroups wsX11_hasFewGroups) := goodIn_app (goodIn_of _ (by decide +kernel)) ggX11_placeBest_X11_hasFewGroups
set_option maxRecDepth 20000 in
theorem ggX11_placeBest_X3_keep : GoodIn wsX11_placeBest wsX3_keep := goodIn_s _ [(23, 10), (22, 1), (33, 5), (13, 1), (38, 1), (16, 1), (39, 3), (15, 1), (42, 3), (8, 1), (45, 6), (227, 3), (220, 7)] rfl (by decide +kernel)
set_option maxRecDepth 20000 in
theorem gX11_placeBest_X3_keep : GoodIn wsX11_placeBest (wsV RX11 149 RX3 yX3_keep wsX3_keep) := goodIn_app (goodIn_of _ (by decide +kernel)) ggX11_placeBest_X3_keep
theorem dX11_placeBest_0 : decode cX11_placeBest 0 = .ok (.aload_n 0, 1) := by decide +kernel
theorem dX11_placeBest_1 : decode cX11_placeBest 1 = .ok (.invokevirtual 212, 3) := by decide +kernel
theorem dX11_placeBest_4 : decode cX11_placeBest 4 = .ok (.ifCond .ne 14, 3) := by decide +kernel
theorem dX11_placeBest_7 : decode cX11_placeBest 7 = .ok (.new 106, 3) := by decide +kernel
theorem dX11_placeBest_10 : decode cX11_placeBest 10 = .ok (.dup, 1) := by decide +kernel
theorem dX11_placeBest_11 : decode cX11_placeBest 11 = .ok (.ldc_w 477, 3) := by decide +kernel
theorem dX11_placeBest_14 : decode cX11_placeBest 14 = .ok (.invokespecial 110, 3) := by decide +kernel
theorem dX11_placeBest_17 : decode cX11_placeBest 17 = .ok (.athrow, 1) := by decide +kernel
theorem dX11_placeBest_18 : decode cX11_placeBest 18 = .ok (.aload_n 0, 1) := by decide +kernel
theorem dX11_placeBest_19 : decode cX11_placeBest 19 = .ok (.getfield 66, 3) := by decide +kernel
theorem dX11_placeBest_22 : decode cX11_placeBest 22 = .ok (.aload_n 0, 1) := by decide +kernel
theorem dX11_placeBest_23 : decode cX11_placeBest 23 = .ok (.getfield 53, 3) := by decide +kernel
theorem dX11_placeBest_26 : decode cX11_placeBest 26 = .ok (.invokevirtual 149, 3) := by decide +kernel
theorem dX11_placeBest_29 : decode cX11_placeBest 29 = .ok (.aload_n 0, 1) := by decide +kernel
theorem dX11_placeBest_30 : decode cX11_placeBest 30 = .ok (.invokevirtual 236, 3) := by decide +kernel
theorem dX11_placeBest_33 : decode cX11_placeBest 33 = .ok (.aload_n 0, 1) := by decide +kernel
theorem dX11_placeBest_34 : decode cX11_placeBest 34 = .ok (.invokevirtual 239, 3) := by decide +kernel
theorem dX11_placeBest_37 : decode cX11_placeBest 37 = .ok (.ireturn, 1) := by decide +kernel
set_option maxRecDepth 20000 in
theorem ggX11_takeBest_X8_groupCount : GoodIn wsX11_takeBest wsX8_groupCount := goodIn_s _ [(10, 6), (148, 7)] rfl (by decide +kernel)
set_option maxRecDepth 20000 in
theorem gX11_takeBest_X8_groupCount : GoodIn wsX11_takeBest (wsV RX11 277 RX8 yX8_groupCount wsX8_groupCount) := goodIn_app (goodIn_of _ (by decide +kernel)) ggX11_takeBest_X8_groupCount
set_option maxRecDepth 20000 in
theorem ggX11_takeBest_X11_at : GoodIn wsX11_takeBest wsX11_at := goodIn_s _ [(15, 1)] rfl (by decide +kernel)
set_option maxRecDepth 20000 in
theorem gX11_takeBest_X11_at : GoodIn wsX11_takeBest (va_wsS RX11 164 yX11_at wsX11_at) := goodIn_app (goodIn_of _ (by decide +kernel)) ggX11_takeBest_X11_at
theorem dX11_takeBest_0 : decode cX11_takeBest 0 = .ok (.iconst 0, 1) := by decide +kernel
theorem dX11_takeBest_1 : decode cX11_takeBest 1 = .ok (.istore_n 1, 1) := by decide +kernel
theorem dX11_takeBest_2 : decode cX11_takeBest 2 = .ok (.aload_n 0, 1) := by decide +kernel
theorem dX11_takeBest_3 : decode cX11_takeBest 3 = .ok (.getfield 53, 3) := by decide +kernel
theorem dX11_takeBest_6 : decode cX11_takeBest 6 = .ok (.invokevirtual 277, 3) := by decide +kernel
theorem dX11_takeBest_9 : decode cX11_takeBest 9 = .ok (.istore_n 2, 1) := by decide +kernel
theorem dX11_takeBest_10 : decode cX11_takeBest 10 = .ok (.iconst 0, 1) := by decide +kernel
theorem dX11_takeBest_11 : decode cX11_takeBest 11 = .ok (.istore_n 3, 1) := by decide +kernel
theorem dX11_takeBest_12 : decode cX11_takeBest 12 = .ok (.iload_n 3, 1) := by decide +kernel
theorem dX11_takeBest_13 : decode cX11_takeBest 13 = .ok (.iload_n 2, 1) := by decide +kernel
theorem dX11_takeBest_14 : decode cX11_takeBest 14 = .ok (.if_icmp .ge 48, 3) := by decide +kernel
theorem dX11_takeBest_17 : decode cX11_takeBest 17 = .ok (.aload_n 0, 1) := by decide +kernel
theorem dX11_takeBest_18 : decode cX11_takeBest 18 = .ok (.getfield 87, 3) := by decide +kernel
theorem dX11_takeBest_21 : decode cX11_takeBest 21 = .ok (.getfield 479, 3) := by decide +kernel
theorem dX11_takeBest_24 : decode cX11_takeBest 24 = .ok (.iload_n 3, 1) := by decide +kernel
theorem dX11_takeBest_25 : decode cX11_takeBest 25 = .ok (.invokestatic 164, 3) := by decide +kernel
theorem dX11_takeBest_28 : decode cX11_takeBest 28 = .ok (.istore 4, 2) := by decide +kernel
theorem dX11_takeBest_30 : decode cX11_takeBest 30 = .ok (.aload_n 0, 1) := by decide +kernel
theorem dX11_takeBest_31 : decode cX11_takeBest 31 = .ok (.getfield 73, 3) := by decide +kernel
theorem dX11_takeBest_34 : decode cX11_takeBest 34 = .ok (.getfield 378, 3) := by decide +kernel
theorem dX11_takeBest_37 : decode cX11_takeBest 37 = .ok (.iload_n 3, 1) := by decide +kernel
theorem dX11_takeBest_38 : decode cX11_takeBest 38 = .ok (.invokestatic 164, 3) := by decide +kernel
theorem dX11_takeBest_41 : decode cX11_takeBest 41 = .ok (.iload 4, 2) := by decide +kernel
theorem dX11_takeBest_43 : decode cX11_takeBest 43 = .ok (.if_icmp .eq 13, 3) := by decide +kernel
theorem dX11_takeBest_46 : decode cX11_takeBest 46 = .ok (.aload_n 0, 1) := by decide +kernel
theorem dX11_takeBest_47 : decode cX11_takeBest 47 = .ok (.iload_n 3, 1) := by decide +kernel
theorem dX11_takeBest_48 : decode cX11_takeBest 48 = .ok (.iload 4, 2) := by decide +kernel
theorem dX11_takeBest_50 : decode cX11_takeBest 50 = .ok (.invokevirtual 228, 3) := by decide +kernel
theorem dX11_takeBest_53 : decode cX11_takeBest 53 = .ok (.iinc 1 1, 3) := by decide +kernel
theorem dX11_takeBest_56 : decode cX11_takeBest 56 = .ok (.iinc 3 1, 3) := by decide +kernel
theorem dX11_takeBest_59 : decode cX11_takeBest 59 = .ok (.goto (-47), 3) := by decide +kernel
theorem dX11_takeBest_62 : decode cX11_takeBest 62 = .ok (.iload_n 1, 1) := by decide +kernel
theorem dX11_takeBest_63 : decode cX11_takeBest 63 = .ok (.ireturn, 1) := by decide +kernel
set_option maxRecDepth 20000 in
theorem ggX11_placeApart_X11_requireVertex : GoodIn wsX11_placeApart wsX11_requireVertex := goodIn_ca (goodIn_s _ [(11, 6), (10, 1), (17, 3), (194, 30)] rfl (by decide +kernel)) (goodIn_sub (fun _ h => List.mem_cons_of_mem _ (List.mem_append_right _ h)) (by decide +kernel))
set_option maxRecDepth 20000 in
theorem gX11_placeApart_X11_requireVertex : GoodIn wsX11_placeApart (wsV RX11 297 RX11 yX11_requireVertex wsX11_requireVertex) := goodIn_app (goodIn_of _ (by decide +kernel)) ggX11_placeApart_X11_requireVertex
set_option maxRecDepth 20000 in
theorem ggX11_placeApart_X11_canTakeApart : GoodIn wsX11_placeApart wsX11_canTakeApart := goodIn_s _ [(23, 1), (18, 1), (24, 1), (6, 1), (25, 1), (194, 37)] rfl (by decide +kernel)
set_option maxRecDepth 20000 in
theorem gX11_placeApart_X11_canTakeApart : GoodIn wsX11_placeApart (wsV RX11 219 RX11 yX11_canTakeApart wsX11_canTakeApart) := goodIn_app (goodIn_of _ (by decide +kernel)) ggX11_placeApart_X11_canTakeApart
set_option maxRecDepth 20000 in
theorem ggX11_placeApart_X3_keep : GoodIn wsX11_placeApart wsX3_keep := goodIn_s _ [(30, 10), (29, 1), (40, 15), (10, 1), (55, 6), (231, 3), (224, 7)] rfl (by decide +kernel)
set_option maxRecDepth 20000 in
theorem gX11_placeApart_X3_keep : GoodIn wsX11_placeApart (wsV RX11 149 RX3 yX3_keep wsX3_keep) := goodIn_app (goodIn_of _ (by decide +kernel)) ggX11_placeApart_X3_keep
theorem dX11_placeApart_0 : decode cX11_placeApart 0 = .ok (.aload_n 0, 1) := by decide +kernel
theorem dX11_placeApart_1 : decode cX11_placeApart 1 = .ok (.iload_n 1, 1) := by decide +kernel
theorem dX11_placeApart_2 : decode cX11_placeApart 2 = .ok (.invokevirtual 297, 3) := by decide +kernel
theorem dX11_placeApart_5 : decode cX11_placeApart 5 = .ok (.aload_n 0, 1) := by decide +kernel
theorem dX11_placeApart_6 : decode cX11_placeApart 6 = .ok (.iload_n 2, 1) := by decide +kernel
theorem dX11_placeApart_7 : decode cX11_placeApart 7 = .ok (.invokevirtual 297, 3) := by decide +kernel
theorem dX11_placeApart_10 : decode cX11_placeApart 10 = .ok (.iload_n 1, 1) := by decide +kernel
theorem dX11_placeApart_11 : decode cX11_placeApart 11 = .ok (.iload_n 2, 1) := by decide +kernel
theorem dX11_placeApart_12 : decode cX11_placeApart 12 = .ok (.if_icmp .ne 14, 3) := by decide +kernel
theorem dX11_placeApart_15 : decode cX11_placeApart 15 = .ok (.new 117, 3) := by decide +kernel
theorem dX11_placeApart_18 : decode cX11_placeApart 18 = .ok (.dup, 1) := by decide +kernel
theorem dX11_placeApart_19 : decode cX11_placeApart 19 = .ok (.ldc_w 482, 3) := by decide +kernel
theorem dX11_placeApart_22 : decode cX11_placeApart 22 = .ok (.invokespecial 121, 3) := by decide +kernel
theorem dX11_placeApart_25 : decode cX11_placeApart 25 = .ok (.athrow, 1) := by decide +kernel
theorem dX11_placeApart_26 : decode cX11_placeApart 26 = .ok (.aload_n 0, 1) := by decide +kernel
theorem dX11_placeApart_27 : decode cX11_placeApart 27 = .ok (.invokevirtual 219, 3) := by decide +kernel
theorem dX11_placeApart_30 : decode cX11_placeApart 30 = .ok (.ifCond .ne 14, 3) := by decide +kernel
theorem dX11_placeApart_33 : decode cX11_placeApart 33 = .ok (.new 106, 3) := by decide +kernel
theorem dX11_placeApart_36 : decode cX11_placeApart 36 = .ok (.dup, 1) := by decide +kernel
theorem dX11_placeApart_37 : decode cX11_placeApart 37 = .ok (.ldc_w 484, 3) := by decide +kernel
theorem dX11_placeApart_40 : decode cX11_placeApart 40 = .ok (.invokespecial 110, 3) := by decide +kernel
theorem dX11_placeApart_43 : decode cX11_placeApart 43 = .ok (.athrow, 1) := by decide +kernel
theorem dX11_placeApart_44 : decode cX11_placeApart 44 = .ok (.aload_n 0, 1) := by decide +kernel
theorem dX11_placeApart_45 : decode cX11_placeApart 45 = .ok (.getfield 66, 3) := by decide +kernel
theorem dX11_placeApart_48 : decode cX11_placeApart 48 = .ok (.aload_n 0, 1) := by decide +kernel
theorem dX11_placeApart_49 : decode cX11_placeApart 49 = .ok (.getfield 53, 3) := by decide +kernel
theorem dX11_placeApart_52 : decode cX11_placeApart 52 = .ok (.invokevirtual 149, 3) := by decide +kernel
theorem dX11_placeApart_55 : decode cX11_placeApart 55 = .ok (.aload_n 0, 1) := by decide +kernel
theorem dX11_placeApart_56 : decode cX11_placeApart 56 = .ok (.iload_n 1, 1) := by decide +kernel
theorem dX11_placeApart_57 : decode cX11_placeApart 57 = .ok (.iload_n 2, 1) := by decide +kernel
theorem dX11_placeApart_58 : decode cX11_placeApart 58 = .ok (.invokevirtual 242, 3) := by decide +kernel
theorem dX11_placeApart_61 : decode cX11_placeApart 61 = .ok (.ireturn, 1) := by decide +kernel
theorem dX11_canTakeApart_0 : decode cX11_canTakeApart 0 = .ok (.aload_n 0, 1) := by decide +kernel
theorem dX11_canTakeApart_1 : decode cX11_canTakeApart 1 = .ok (.getfield 40, 3) := by decide +kernel
theorem dX11_canTakeApart_4 : decode cX11_canTakeApart 4 = .ok (.getfield 262, 3) := by decide +kernel
theorem dX11_canTakeApart_7 : decode cX11_canTakeApart 7 = .ok (.iconst 2, 1) := by decide +kernel
theorem dX11_canTakeApart_8 : decode cX11_canTakeApart 8 = .ok (.if_icmp .ne 17, 3) := by decide +kernel
theorem dX11_canTakeApart_11 : decode cX11_canTakeApart 11 = .ok (.aload_n 0, 1) := by decide +kernel
theorem dX11_canTakeApart_12 : decode cX11_canTakeApart 12 = .ok (.getfield 53, 3) := by decide +kernel
theorem dX11_canTakeApart_15 : decode cX11_canTakeApart 15 = .ok (.getfield 192, 3) := by decide +kernel
theorem dX11_canTakeApart_18 : decode cX11_canTakeApart 18 = .ok (.ifCond .ne 7, 3) := by decide +kernel
theorem dX11_canTakeApart_21 : decode cX11_canTakeApart 21 = .ok (.iconst 1, 1) := by decide +kernel
theorem dX11_canTakeApart_22 : decode cX11_canTakeApart 22 = .ok (.goto 4, 3) := by decide +kernel
theorem dX11_canTakeApart_25 : decode cX11_canTakeApart 25 = .ok (.iconst 0, 1) := by decide +kernel
theorem dX11_canTakeApart_26 : decode cX11_canTakeApart 26 = .ok (.ireturn, 1) := by decide +kernel
set_option maxRecDepth 20000 in
theorem ggX11_takeApart_X1_run : GoodIn wsX11_takeApart wsX1_run := goodIn_s _ [(11, 6), (10, 1), (17, 36), (176, 6), (164, 12)] rfl (by decide +kernel)
set_option maxRecDepth 20000 in
theorem gX11_takeApart_X1_run : GoodIn wsX11_takeApart (wsV RX11 320 RX1 yX1_run wsX1_run) := goodIn_app (goodIn_of _ (by decide +kernel)) ggX11_takeApart_X1_run
set_option maxRecDepth 20000 in
theorem ggX11_takeApart_X11_isIn : GoodIn wsX11_takeApart wsX11_isIn := goodIn_s _ [(44, 1)] rfl (by decide +kernel)
set_option maxRecDepth 20000 in
theorem gX11_takeApart_X11_isIn : GoodIn wsX11_takeApart (va_wsS RX11 486 yX11_isIn wsX11_isIn) := goodIn_app (goodIn_of _ (by decide +kernel)) ggX11_takeApart_X11_isIn
set_option maxRecDepth 20000 in
theorem ggX11_takeApart_X11_at : GoodIn wsX11_takeApart wsX11_at := goodIn_s _ [(31, 1)] rfl (by decide +kernel)
set_option maxRecDepth 20000 in
theorem gX11_takeApart_X11_at : GoodIn wsX11_takeApart (va_wsS RX11 164 yX11_at wsX11_at) := goodIn_app (goodIn_of _ (by decide +kernel)) ggX11_takeApart_X11_at
theorem dX11_takeApart_0 : decode cX11_takeApart 0 = .ok (.aload_n 0, 1) := by decide +kernel
theorem dX11_takeApart_1 : decode cX11_takeApart 1 = .ok (.getfield 94, 3) := by decide +kernel
theorem dX11_takeApart_4 : decode cX11_takeApart 4 = .ok (.aload_n 0, 1) := by decide +kernel
theorem dX11_takeApart_5 : decode cX11_takeApart 5 = .ok (.getfield 40, 3) := by decide +kernel
theorem dX11_takeApart_8 : decode cX11_takeApart 8 = .ok (.iload_n 1, 1) := by decide +kernel
theorem dX11_takeApart_9 : decode cX11_takeApart 9 = .ok (.iload_n 2, 1) := by decide +kernel
theorem dX11_takeApart_10 : decode cX11_takeApart 10 = .ok (.invokevirtual 320, 3) := by decide +kernel
theorem dX11_takeApart_13 : decode cX11_takeApart 13 = .ok (.iconst 0, 1) := by decide +kernel
theorem dX11_takeApart_14 : decode cX11_takeApart 14 = .ok (.istore_n 3, 1) := by decide +kernel
theorem dX11_takeApart_15 : decode cX11_takeApart 15 = .ok (.iconst 0, 1) := by decide +kernel
theorem dX11_takeApart_16 : decode cX11_takeApart 16 = .ok (.istore 4, 2) := by decide +kernel
theorem dX11_takeApart_18 : decode cX11_takeApart 18 = .ok (.iload 4, 2) := by decide +kernel
theorem dX11_takeApart_20 : decode cX11_takeApart 20 = .ok (.aload_n 0, 1) := by decide +kernel
theorem dX11_takeApart_21 : decode cX11_takeApart 21 = .ok (.getfield 40, 3) := by decide +kernel
theorem dX11_takeApart_24 : decode cX11_takeApart 24 = .ok (.getfield 141, 3) := by decide +kernel
theorem dX11_takeApart_27 : decode cX11_takeApart 27 = .ok (.if_icmp .ge 59, 3) := by decide +kernel
theorem dX11_takeApart_30 : decode cX11_takeApart 30 = .ok (.aload_n 0, 1) := by decide +kernel
theorem dX11_takeApart_31 : decode cX11_takeApart 31 = .ok (.getfield 94, 3) := by decide +kernel
theorem dX11_takeApart_34 : decode cX11_takeApart 34 = .ok (.getfield 327, 3) := by decide +kernel
theorem dX11_takeApart_37 : decode cX11_takeApart 37 = .ok (.iload 4, 2) := by decide +kernel
theorem dX11_takeApart_39 : decode cX11_takeApart 39 = .ok (.invokestatic 486, 3) := by decide +kernel
theorem dX11_takeApart_42 : decode cX11_takeApart 42 = .ok (.ifCond .eq 7, 3) := by decide +kernel
theorem dX11_takeApart_45 : decode cX11_takeApart 45 = .ok (.iconst 0, 1) := by decide +kernel
theorem dX11_takeApart_46 : decode cX11_takeApart 46 = .ok (.goto 4, 3) := by decide +kernel
theorem dX11_takeApart_49 : decode cX11_takeApart 49 = .ok (.iconst 1, 1) := by decide +kernel
theorem dX11_takeApart_50 : decode cX11_takeApart 50 = .ok (.istore 5, 2) := by decide +kernel
theorem dX11_takeApart_52 : decode cX11_takeApart 52 = .ok (.aload_n 0, 1) := by decide +kernel
theorem dX11_takeApart_53 : decode cX11_takeApart 53 = .ok (.getfield 53, 3) := by decide +kernel
theorem dX11_takeApart_56 : decode cX11_takeApart 56 = .ok (.getfield 315, 3) := by decide +kernel
theorem dX11_takeApart_59 : decode cX11_takeApart 59 = .ok (.iload 4, 2) := by decide +kernel
theorem dX11_takeApart_61 : decode cX11_takeApart 61 = .ok (.invokestatic 164, 3) := by decide +kernel
theorem dX11_takeApart_64 : decode cX11_takeApart 64 = .ok (.iload 5, 2) := by decide +kernel
theorem dX11_takeApart_66 : decode cX11_takeApart 66 = .ok (.if_icmp .eq 14, 3) := by decide +kernel
theorem dX11_takeApart_69 : decode cX11_takeApart 69 = .ok (.aload_n 0, 1) := by decide +kernel
theorem dX11_takeApart_70 : decode cX11_takeApart 70 = .ok (.iload 4, 2) := by decide +kernel
theorem dX11_takeApart_72 : decode cX11_takeApart 72 = .ok (.iload 5, 2) := by decide +kernel
theorem dX11_takeApart_74 : decode cX11_takeApart 74 = .ok (.invokevirtual 228, 3) := by decide +kernel
theorem dX11_takeApart_77 : decode cX11_takeApart 77 = .ok (.iinc 3 1, 3) := by decide +kernel
theorem dX11_takeApart_80 : decode cX11_takeApart 80 = .ok (.iinc 4 1, 3) := by decide +kernel
theorem dX11_takeApart_83 : decode cX11_takeApart 83 = .ok (.goto (-65), 3) := by decide +kernel
theorem dX11_takeApart_86 : decode cX11_takeApart 86 = .ok (.iload_n 3, 1) := by decide +kernel
theorem dX11_takeApart_87 : decode cX11_takeApart 87 = .ok (.ireturn, 1) := by decide +kernel
set_option maxRecDepth 20000 in
theorem ggX11_setCredit_X11_isAllowance : GoodIn wsX11_setCredit wsX11_isAllowance := goodIn_s _ [(10, 1)] rfl (by decide +kernel)
set_option maxRecDepth 20000 in
theorem gX11_setCredit_X11_isAllowance : GoodIn wsX11_setCredit (wsV RX11 222 RX11 yX11_isAllowance wsX11_isAllowance) := goodIn_app (goodIn_of _ (by decide +kernel)) ggX11_setCredit_X11_isAllowance
set_option maxRecDepth 20000 in
theorem ggX11_setCredit_X3_keep : GoodIn wsX11_setCredit wsX3_keep := goodIn_s _ [(15, 10), (14, 1), (25, 15), (9, 1), (40, 6), (71, 3), (64, 7)] rfl (by decide +kernel)
set_option maxRecDepth 20000 in
theorem gX11_setCredit_X3_keep : GoodIn wsX11_setCredit (wsV RX11 149 RX3 yX3_keep wsX3_keep) := goodIn_app (goodIn_of _ (by decide +kernel)) ggX11_setCredit_X3_keep
theorem dX11_setCredit_0 : decode cX11_setCredit 0 = .ok (.aload_n 0, 1) := by decide +kernel
theorem dX11_setCredit_1 : decode cX11_setCredit 1 = .ok (.iload_n 1, 1) := by decide +kernel
theorem dX11_setCredit_2 : decode cX11_setCredit 2 = .ok (.invokevirtual 222, 3) := by decide +kernel
theorem dX11_setCredit_5 : decode cX11_setCredit 5 = .ok (.ifCond .ne 14, 3) := by decide +kernel
theorem dX11_setCredit_8 : decode cX11_setCredit 8 = .ok (.new 117, 3) := by decide +kernel
theorem dX11_setCredit_11 : decode cX11_setCredit 11 = .ok (.dup, 1) := by decide +kernel
theorem dX11_setCredit_12 : decode cX11_setCredit 12 = .ok (.ldc_w 490, 3) := by decide +kernel
theorem dX11_setCredit_15 : decode cX11_setCredit 15 = .ok (.invokespecial 121, 3) := by decide +kernel
theorem dX11_setCredit_18 : decode cX11_setCredit 18 = .ok (.athrow, 1) := by decide +kernel
theorem dX11_setCredit_19 : decode cX11_setCredit 19 = .ok (.aload_n 0, 1) := by decide +kernel
theorem dX11_setCredit_20 : decode cX11_setCredit 20 = .ok (.getfield 66, 3) := by decide +kernel
theorem dX11_setCredit_23 : decode cX11_setCredit 23 = .ok (.aload_n 0, 1) := by decide +kernel
theorem dX11_setCredit_24 : decode cX11_setCredit 24 = .ok (.getfield 53, 3) := by decide +kernel
theorem dX11_setCredit_27 : decode cX11_setCredit 27 = .ok (.invokevirtual 149, 3) := by decide +kernel
theorem dX11_setCredit_30 : decode cX11_setCredit 30 = .ok (.aload_n 0, 1) := by decide +kernel
theorem dX11_setCredit_31 : decode cX11_setCredit 31 = .ok (.getfield 53, 3) := by decide +kernel
theorem dX11_setCredit_34 : decode cX11_setCredit 34 = .ok (.getfield 245, 3) := by decide +kernel
theorem dX11_setCredit_37 : decode cX11_setCredit 37 = .ok (.istore_n 2, 1) := by decide +kernel
theorem dX11_setCredit_38 : decode cX11_setCredit 38 = .ok (.aload_n 0, 1) := by decide +kernel
theorem dX11_setCredit_39 : decode cX11_setCredit 39 = .ok (.getfield 53, 3) := by decide +kernel
theorem dX11_setCredit_42 : decode cX11_setCredit 42 = .ok (.iload_n 1, 1) := by decide +kernel
theorem dX11_setCredit_43 : decode cX11_setCredit 43 = .ok (.putfield 245, 3) := by decide +kernel
theorem dX11_setCredit_46 : decode cX11_setCredit 46 = .ok (.iload_n 2, 1) := by decide +kernel
theorem dX11_setCredit_47 : decode cX11_setCredit 47 = .ok (.ireturn, 1) := by decide +kernel
theorem dX11_isAllowance_0 : decode cX11_isAllowance 0 = .ok (.iload_n 1, 1) := by decide +kernel
theorem dX11_isAllowance_1 : decode cX11_isAllowance 1 = .ok (.ifCond .lt 13, 3) := by decide +kernel
theorem dX11_isAllowance_4 : decode cX11_isAllowance 4 = .ok (.iload_n 1, 1) := by decide +kernel
theorem dX11_isAllowance_5 : decode cX11_isAllowance 5 = .ok (.bipush 99, 2) := by decide +kernel
theorem dX11_isAllowance_7 : decode cX11_isAllowance 7 = .ok (.if_icmp .gt 7, 3) := by decide +kernel
theorem dX11_isAllowance_10 : decode cX11_isAllowance 10 = .ok (.iconst 1, 1) := by decide +kernel
theorem dX11_isAllowance_11 : decode cX11_isAllowance 11 = .ok (.goto 4, 3) := by decide +kernel
theorem dX11_isAllowance_14 : decode cX11_isAllowance 14 = .ok (.iconst 0, 1) := by decide +kernel
theorem dX11_isAllowance_15 : decode cX11_isAllowance 15 = .ok (.ireturn, 1) := by decide +kernel
set_option maxRecDepth 20000 in
theorem ggX11_report_X11_border : GoodIn wsX11_report wsX11_border := goodIn_s _ [(11, 1), (2, 1), (12, 4), (10, 1), (16, 1), (5, 2), (17, 12), (54, 37)] rfl (by decide +kernel)
set_option maxRecDepth 20000 in
theorem gX11_report_X11_border : GoodIn wsX11_report (wsV RX11 492 RX11 yX11_border wsX11_border) := goodIn_app (goodIn_of _ (by decide +kernel)) ggX11_report_X11_border
set_option maxRecDepth 20000 in
theorem ggX11_report_X11_write : GoodIn wsX11_report wsX11_write := goodIn_s _ [(32, 2), (1, 1), (34, 2), (10, 1), (36, 1), (54, 18)] rfl (by decide +kernel)
set_option maxRecDepth 20000 in
theorem gX11_report_X11_write : GoodIn wsX11_report (wsV RX11 498 RX11 yX11_write wsX11_write) := goodIn_app (goodIn_of _ (by decide +kernel)) ggX11_report_X11_write
set_option maxRecDepth 20000 in
theorem ggX11_report_X11_at : GoodIn wsX11_report wsX11_at := goodIn_s _ [(21, 1)] rfl (by decide +kernel)
set_option maxRecDepth 20000 in
theorem gX11_report_X11_at : GoodIn wsX11_report (va_wsS RX11 164 yX11_at wsX11_at) := goodIn_app (goodIn_of _ (by decide +kernel)) ggX11_report_X11_at
set_option maxRecDepth 20000 in
theorem ggX11_report_X11_isIn : GoodIn wsX11_report wsX11_isIn := goodIn_s _ [(39, 1)] rfl (by decide +kernel)
set_option maxRecDepth 20000 in
theorem gX11_report_X11_isIn : GoodIn wsX11_report (va_wsS RX11 486 yX11_isIn wsX11_isIn) := goodIn_app (goodIn_of _ (by decide +kernel)) ggX11_report_X11_isIn
set_option maxRecDepth 20000 in
theorem ggX11_report_X11_writeVertex : GoodIn wsX11_report wsX11_writeVertex := goodIn_s _ [(43, 1), (2, 1), (29, 3), (10, 1), (32, 2), (1, 1), (34, 3), (44, 3), (25, 1), (47, 37)] rfl (by decide +kernel)
set_option maxRecDepth 20000 in
theorem gX11_report_X11_writeVertex : GoodIn wsX11_report (wsV RX11 501 RX11 yX11_writeVertex wsX11_writeVertex) := goodIn_app (goodIn_of _ (by decide +kernel)) ggX11_report_X11_writeVertex
theorem dX11_report_0 : decode cX11_report 0 = .ok (.aload_n 0, 1) := by decide +kernel
theorem dX11_report_1 : decode cX11_report 1 = .ok (.invokevirtual 492, 3) := by decide +kernel
theorem dX11_report_4 : decode cX11_report 4 = .ok (.istore_n 1, 1) := by decide +kernel
theorem dX11_report_5 : decode cX11_report 5 = .ok (.aload_n 0, 1) := by decide +kernel
theorem dX11_report_6 : decode cX11_report 6 = .ok (.iconst 0, 1) := by decide +kernel
theorem dX11_report_7 : decode cX11_report 7 = .ok (.putfield 495, 3) := by decide +kernel
theorem dX11_report_10 : decode cX11_report 10 = .ok (.iconst 0, 1) := by decide +kernel
theorem dX11_report_11 : decode cX11_report 11 = .ok (.istore_n 2, 1) := by decide +kernel
theorem dX11_report_12 : decode cX11_report 12 = .ok (.iload_n 2, 1) := by decide +kernel
theorem dX11_report_13 : decode cX11_report 13 = .ok (.aload_n 0, 1) := by decide +kernel
theorem dX11_report_14 : decode cX11_report 14 = .ok (.getfield 40, 3) := by decide +kernel
theorem dX11_report_17 : decode cX11_report 17 = .ok (.getfield 262, 3) := by decide +kernel
theorem dX11_report_20 : decode cX11_report 20 = .ok (.if_icmp .ge 73, 3) := by decide +kernel
theorem dX11_report_23 : decode cX11_report 23 = .ok (.aload_n 0, 1) := by decide +kernel
theorem dX11_report_24 : decode cX11_report 24 = .ok (.bipush 48, 2) := by decide +kernel
theorem dX11_report_26 : decode cX11_report 26 = .ok (.iload_n 2, 1) := by decide +kernel
theorem dX11_report_27 : decode cX11_report 27 = .ok (.iadd, 1) := by decide +kernel
theorem dX11_report_28 : decode cX11_report 28 = .ok (.invokevirtual 498, 3) := by decide +kernel
theorem dX11_report_31 : decode cX11_report 31 = .ok (.aload_n 0, 1) := by decide +kernel
theorem dX11_report_32 : decode cX11_report 32 = .ok (.bipush 58, 2) := by decide +kernel
theorem dX11_report_34 : decode cX11_report 34 = .ok (.invokevirtual 498, 3) := by decide +kernel
theorem dX11_report_37 : decode cX11_report 37 = .ok (.iconst 0, 1) := by decide +kernel
theorem dX11_report_38 : decode cX11_report 38 = .ok (.istore_n 3, 1) := by decide +kernel
theorem dX11_report_39 : decode cX11_report 39 = .ok (.iload_n 3, 1) := by decide +kernel
theorem dX11_report_40 : decode cX11_report 40 = .ok (.aload_n 0, 1) := by decide +kernel
theorem dX11_report_41 : decode cX11_report 41 = .ok (.getfield 40, 3) := by decide +kernel
theorem dX11_report_44 : decode cX11_report 44 = .ok (.getfield 141, 3) := by decide +kernel
theorem dX11_report_47 : decode cX11_report 47 = .ok (.if_icmp .ge 34, 3) := by decide +kernel
theorem dX11_report_50 : decode cX11_report 50 = .ok (.aload_n 0, 1) := by decide +kernel
theorem dX11_report_51 : decode cX11_report 51 = .ok (.getfield 53, 3) := by decide +kernel
theorem dX11_report_54 : decode cX11_report 54 = .ok (.getfield 315, 3) := by decide +kernel
theorem dX11_report_57 : decode cX11_report 57 = .ok (.iload_n 3, 1) := by decide +kernel
theorem dX11_report_58 : decode cX11_report 58 = .ok (.invokestatic 164, 3) := by decide +kernel
theorem dX11_report_61 : decode cX11_report 61 = .ok (.iload_n 2, 1) := by decide +kernel
theorem dX11_report_62 : decode cX11_report 62 = .ok (.if_icmp .ne 13, 3) := by decide +kernel
theorem dX11_report_65 : decode cX11_report 65 = .ok (.aload_n 0, 1) := by decide +kernel
theorem dX11_report_66 : decode cX11_report 66 = .ok (.iload_n 3, 1) := by decide +kernel
theorem dX11_report_67 : decode cX11_report 67 = .ok (.iload_n 1, 1) := by decide +kernel
theorem dX11_report_68 : decode cX11_report 68 = .ok (.iload_n 3, 1) := by decide +kernel
theorem dX11_report_69 : decode cX11_report 69 = .ok (.invokestatic 486, 3) := by decide +kernel
theorem dX11_report_72 : decode cX11_report 72 = .ok (.invokevirtual 501, 3) := by decide +kernel
theorem dX11_report_75 : decode cX11_report 75 = .ok (.iinc 3 1, 3) := by decide +kernel
theorem dX11_report_78 : decode cX11_report 78 = .ok (.goto (-39), 3) := by decide +kernel
theorem dX11_report_81 : decode cX11_report 81 = .ok (.aload_n 0, 1) := by decide +kernel
theorem dX11_report_82 : decode cX11_report 82 = .ok (.bipush 10, 2) := by decide +kernel
theorem dX11_report_84 : decode cX11_report 84 = .ok (.invokevirtual 498, 3) := by decide +kernel
theorem dX11_report_87 : decode cX11_report 87 = .ok (.iinc 2 1, 3) := by decide +kernel
theorem dX11_report_90 : decode cX11_report 90 = .ok (.goto (-78), 3) := by decide +kernel
theorem dX11_report_93 : decode cX11_report 93 = .ok (.aload_n 0, 1) := by decide +kernel
theorem dX11_report_94 : decode cX11_report 94 = .ok (.getfield 495, 3) := by decide +kernel
theorem dX11_report_97 : decode cX11_report 97 = .ok (.ireturn, 1) := by decide +kernel
set_option maxRecDepth 20000 in
theorem ggX11_writeVertex_X11_write : GoodIn wsX11_writeVertex wsX11_write := goodIn_s _ [(6, 5), (5, 1), (11, 1), (23, 18)] rfl (by decide +kernel)
set_option maxRecDepth 20000 in
theorem gX11_writeVertex_X11_write : GoodIn wsX11_writeVertex (wsV RX11 498 RX11 yX11_write wsX11_write) := goodIn_app (goodIn_of _ (by decide +kernel)) ggX11_writeVertex_X11_write
set_option maxRecDepth 20000 in
theorem ggX11_writeVertex_X2_nameOf : GoodIn wsX11_writeVertex wsX2_nameOf := goodIn_s _ [(16, 2), (41, 12)] rfl (by decide +kernel)
set_option maxRecDepth 20000 in
theorem gX11_writeVertex_X2_nameOf : GoodIn wsX11_writeVertex (wsV RX11 505 RX2 yX2_nameOf wsX2_nameOf) := goodIn_app (goodIn_of _ (by decide +kernel)) ggX11_writeVertex_X2_nameOf
set_option maxRecDepth 20000 in
theorem ggX11_writeVertex_X10_letterAt : GoodIn wsX11_writeVertex wsX10_letterAt := goodIn_s _ [(21, 2)] rfl (by decide +kernel)
set_option maxRecDepth 20000 in
theorem gX11_writeVertex_X10_letterAt : GoodIn wsX11_writeVertex (va_wsS RX11 509 yX10_letterAt wsX10_letterAt) := goodIn_app (goodIn_of _ (by decide +kernel)) ggX11_writeVertex_X10_letterAt
theorem dX11_writeVertex_0 : decode cX11_writeVertex 0 = .ok (.aload_n 0, 1) := by decide +kernel
theorem dX11_writeVertex_1 : decode cX11_writeVertex 1 = .ok (.bipush 32, 2) := by decide +kernel
theorem dX11_writeVertex_3 : decode cX11_writeVertex 3 = .ok (.invokevirtual 498, 3) := by decide +kernel
theorem dX11_writeVertex_6 : decode cX11_writeVertex 6 = .ok (.aload_n 0, 1) := by decide +kernel
theorem dX11_writeVertex_7 : decode cX11_writeVertex 7 = .ok (.getfield 40, 3) := by decide +kernel
theorem dX11_writeVertex_10 : decode cX11_writeVertex 10 = .ok (.iload_n 1, 1) := by decide +kernel
theorem dX11_writeVertex_11 : decode cX11_writeVertex 11 = .ok (.invokevirtual 505, 3) := by decide +kernel
theorem dX11_writeVertex_14 : decode cX11_writeVertex 14 = .ok (.lstore_n 3, 1) := by decide +kernel
theorem dX11_writeVertex_15 : decode cX11_writeVertex 15 = .ok (.bipush 7, 2) := by decide +kernel
theorem dX11_writeVertex_17 : decode cX11_writeVertex 17 = .ok (.istore 5, 2) := by decide +kernel
theorem dX11_writeVertex_19 : decode cX11_writeVertex 19 = .ok (.iload 5, 2) := by decide +kernel
theorem dX11_writeVertex_21 : decode cX11_writeVertex 21 = .ok (.ifCond .lt 28, 3) := by decide +kernel
theorem dX11_writeVertex_24 : decode cX11_writeVertex 24 = .ok (.lload_n 3, 1) := by decide +kernel
theorem dX11_writeVertex_25 : decode cX11_writeVertex 25 = .ok (.iload 5, 2) := by decide +kernel
theorem dX11_writeVertex_27 : decode cX11_writeVertex 27 = .ok (.invokestatic 509, 3) := by decide +kernel
theorem dX11_writeVertex_30 : decode cX11_writeVertex 30 = .ok (.istore 6, 2) := by decide +kernel
theorem dX11_writeVertex_32 : decode cX11_writeVertex 32 = .ok (.iload 6, 2) := by decide +kernel
theorem dX11_writeVertex_34 : decode cX11_writeVertex 34 = .ok (.ifCond .eq 9, 3) := by decide +kernel
theorem dX11_writeVertex_37 : decode cX11_writeVertex 37 = .ok (.aload_n 0, 1) := by decide +kernel
theorem dX11_writeVertex_38 : decode cX11_writeVertex 38 = .ok (.iload 6, 2) := by decide +kernel
theorem dX11_writeVertex_40 : decode cX11_writeVertex 40 = .ok (.invokevirtual 498, 3) := by decide +kernel
theorem dX11_writeVertex_43 : decode cX11_writeVertex 43 = .ok (.iinc 5 (-1), 3) := by decide +kernel
theorem dX11_writeVertex_46 : decode cX11_writeVertex 46 = .ok (.goto (-27), 3) := by decide +kernel
theorem dX11_writeVertex_49 : decode cX11_writeVertex 49 = .ok (.iload_n 2, 1) := by decide +kernel
theorem dX11_writeVertex_50 : decode cX11_writeVertex 50 = .ok (.ifCond .eq 9, 3) := by decide +kernel
theorem dX11_writeVertex_53 : decode cX11_writeVertex 53 = .ok (.aload_n 0, 1) := by decide +kernel
theorem dX11_writeVertex_54 : decode cX11_writeVertex 54 = .ok (.bipush 43, 2) := by decide +kernel
theorem dX11_writeVertex_56 : decode cX11_writeVertex 56 = .ok (.invokevirtual 498, 3) := by decide +kernel
theorem dX11_writeVertex_59 : decode cX11_writeVertex 59 = .ok (.return_, 1) := by decide +kernel
set_option maxRecDepth 20000 in
theorem ggX11_write_X11_put : GoodIn wsX11_write wsX11_put := goodIn_s _ [(6, 1)] rfl (by decide +kernel)
set_option maxRecDepth 20000 in
theorem gX11_write_X11_put : GoodIn wsX11_write (va_wsS RX11 513 yX11_put wsX11_put) := goodIn_app (goodIn_of _ (by decide +kernel)) ggX11_write_X11_put
theorem dX11_write_0 : decode cX11_write 0 = .ok (.aload_n 0, 1) := by decide +kernel
theorem dX11_write_1 : decode cX11_write 1 = .ok (.getfield 98, 3) := by decide +kernel
theorem dX11_write_4 : decode cX11_write 4 = .ok (.aload_n 0, 1) := by decide +kernel
theorem dX11_write_5 : decode cX11_write 5 = .ok (.getfield 495, 3) := by decide +kernel
theorem dX11_write_8 : decode cX11_write 8 = .ok (.iload_n 1, 1) := by decide +kernel
theorem dX11_write_9 : decode cX11_write 9 = .ok (.invokestatic 513, 3) := by decide +kernel
theorem dX11_write_12 : decode cX11_write 12 = .ok (.aload_n 0, 1) := by decide +kernel
theorem dX11_write_13 : decode cX11_write 13 = .ok (.dup, 1) := by decide +kernel
theorem dX11_write_14 : decode cX11_write 14 = .ok (.getfield 495, 3) := by decide +kernel
theorem dX11_write_17 : decode cX11_write 17 = .ok (.iconst 1, 1) := by decide +kernel
theorem dX11_write_18 : decode cX11_write 18 = .ok (.iadd, 1) := by decide +kernel
theorem dX11_write_19 : decode cX11_write 19 = .ok (.putfield 495, 3) := by decide +kernel
theorem dX11_write_22 : decode cX11_write 22 = .ok (.return_, 1) := by decide +kernel
set_option maxRecDepth 20000 in
theorem ggX11_reportByte_X11_at : GoodIn wsX11_reportByte wsX11_at := goodIn_s _ [(8, 1)] rfl (by decide +kernel)
set_option maxRecDepth 20000 in
theorem gX11_reportByte_X11_at : GoodIn wsX11_reportByte (va_wsS RX11 164 yX11_at wsX11_at) := goodIn_app (goodIn_of _ (by decide +kernel)) ggX11_reportByte_X11_at
theorem dX11_reportByte_0 : decode cX11_reportByte 0 = .ok (.iload_n 1, 1) := by decide +kernel
theorem dX11_reportByte_1 : decode cX11_reportByte 1 = .ok (.ifCond .lt 11, 3) := by decide +kernel
theorem dX11_reportByte_4 : decode cX11_reportByte 4 = .ok (.iload_n 1, 1) := by decide +kernel
theorem dX11_reportByte_5 : decode cX11_reportByte 5 = .ok (.aload_n 0, 1) := by decide +kernel
theorem dX11_reportByte_6 : decode cX11_reportByte 6 = .ok (.getfield 495, 3) := by decide +kernel
theorem dX11_reportByte_9 : decode cX11_reportByte 9 = .ok (.if_icmp .lt 14, 3) := by decide +kernel
theorem dX11_reportByte_12 : decode cX11_reportByte 12 = .ok (.new 288, 3) := by decide +kernel
theorem dX11_reportByte_15 : decode cX11_reportByte 15 = .ok (.dup, 1) := by decide +kernel
theorem dX11_reportByte_16 : decode cX11_reportByte 16 = .ok (.ldc_w 517, 3) := by decide +kernel
theorem dX11_reportByte_19 : decode cX11_reportByte 19 = .ok (.invokespecial 292, 3) := by decide +kernel
theorem dX11_reportByte_22 : decode cX11_reportByte 22 = .ok (.athrow, 1) := by decide +kernel
theorem dX11_reportByte_23 : decode cX11_reportByte 23 = .ok (.aload_n 0, 1) := by decide +kernel
theorem dX11_reportByte_24 : decode cX11_reportByte 24 = .ok (.getfield 98, 3) := by decide +kernel
theorem dX11_reportByte_27 : decode cX11_reportByte 27 = .ok (.iload_n 1, 1) := by decide +kernel
theorem dX11_reportByte_28 : decode cX11_reportByte 28 = .ok (.invokestatic 164, 3) := by decide +kernel
theorem dX11_reportByte_31 : decode cX11_reportByte 31 = .ok (.ireturn, 1) := by decide +kernel
set_option maxRecDepth 20000 in
theorem ggX11_undo_X3_takeBack : GoodIn wsX11_undo wsX3_takeBack := goodIn_s _ [(8, 6), (7, 1), (14, 25), (57, 10)] rfl (by decide +kernel)
set_option maxRecDepth 20000 in
theorem gX11_undo_X3_takeBack : GoodIn wsX11_undo (wsV RX11 519 RX3 yX3_takeBack wsX3_takeBack) := goodIn_app (goodIn_of _ (by decide +kernel)) ggX11_undo_X3_takeBack
theorem dX11_undo_0 : decode cX11_undo 0 = .ok (.aload_n 0, 1) := by decide +kernel
theorem dX11_undo_1 : decode cX11_undo 1 = .ok (.getfield 66, 3) := by decide +kernel
theorem dX11_undo_4 : decode cX11_undo 4 = .ok (.aload_n 0, 1) := by decide +kernel
theorem dX11_undo_5 : decode cX11_undo 5 = .ok (.getfield 53, 3) := by decide +kernel
theorem dX11_undo_8 : decode cX11_undo 8 = .ok (.invokevirtual 519, 3) := by decide +kernel
theorem dX11_undo_11 : decode cX11_undo 11 = .ok (.ifCond .eq 13, 3) := by decide +kernel
theorem dX11_undo_14 : decode cX11_undo 14 = .ok (.aload_n 0, 1) := by decide +kernel
theorem dX11_undo_15 : decode cX11_undo 15 = .ok (.getfield 66, 3) := by decide +kernel
theorem dX11_undo_18 : decode cX11_undo 18 = .ok (.getfield 280, 3) := by decide +kernel
theorem dX11_undo_21 : decode cX11_undo 21 = .ok (.goto 4, 3) := by decide +kernel
theorem dX11_undo_24 : decode cX11_undo 24 = .ok (.iconst (-1), 1) := by decide +kernel
theorem dX11_undo_25 : decode cX11_undo 25 = .ok (.ireturn, 1) := by decide +kernel
set_option maxRecDepth 20000 in
theorem ggX11_save_X2_copyFrom : GoodIn wsX11_save wsX2_copyFrom := goodIn_s _ [(10, 25), (132, 12)] rfl (by decide +kernel)
set_option maxRecDepth 20000 in
theorem gX11_save_X2_copyFrom : GoodIn wsX11_save (wsV RX11 131 RX2 yX2_copyFrom wsX2_copyFrom) := goodIn_app (goodIn_of _ (by decide +kernel)) ggX11_save_X2_copyFrom
set_option maxRecDepth 20000 in
theorem ggX11_save_X8_copyFrom : GoodIn wsX11_save wsX8_copyFrom := goodIn_s _ [(39, 8), (27, 8), (20, 3), (144, 7)] rfl (by decide +kernel)
set_option maxRecDepth 20000 in
theorem gX11_save_X8_copyFrom : GoodIn wsX11_save (wsV RX11 439 RX8 yX8_copyFrom wsX8_copyFrom) := goodIn_app (goodIn_of _ (by decide +kernel)) ggX11_save_X8_copyFrom
set_option maxRecDepth 20000 in
theorem ggX11_save_X11_cut : GoodIn wsX11_save wsX11_cut := goodIn_s _ [(50, 2), (2, 1), (4, 1), (52, 17), (38, 1), (69, 1), (44, 1), (40, 1), (70, 1), (28, 1), (71, 4), (9, 1), (75, 1), (13, 2), (16, 1), (76, 56), (151, 12), (132, 19)] rfl (by decide +kernel)
set_option maxRecDepth 20000 in
theorem gX11_save_X11_cut : GoodIn wsX11_save (wsV RX11 366 RX11 yX11_cut wsX11_cut) := goodIn_app (goodIn_of _ (by decide +kernel)) ggX11_save_X11_cut
theorem dX11_save_0 : decode cX11_save 0 = .ok (.aload_n 0, 1) := by decide +kernel
theorem dX11_save_1 : decode cX11_save 1 = .ok (.getfield 47, 3) := by decide +kernel
theorem dX11_save_4 : decode cX11_save 4 = .ok (.aload_n 0, 1) := by decide +kernel
theorem dX11_save_5 : decode cX11_save 5 = .ok (.getfield 40, 3) := by decide +kernel
theorem dX11_save_8 : decode cX11_save 8 = .ok (.invokevirtual 131, 3) := by decide +kernel
theorem dX11_save_11 : decode cX11_save 11 = .ok (.aload_n 0, 1) := by decide +kernel
theorem dX11_save_12 : decode cX11_save 12 = .ok (.getfield 60, 3) := by decide +kernel
theorem dX11_save_15 : decode cX11_save 15 = .ok (.aload_n 0, 1) := by decide +kernel
theorem dX11_save_16 : decode cX11_save 16 = .ok (.getfield 53, 3) := by decide +kernel
theorem dX11_save_19 : decode cX11_save 19 = .ok (.invokevirtual 439, 3) := by decide +kernel
theorem dX11_save_22 : decode cX11_save 22 = .ok (.aload_n 0, 1) := by decide +kernel
theorem dX11_save_23 : decode cX11_save 23 = .ok (.iconst 1, 1) := by decide +kernel
theorem dX11_save_24 : decode cX11_save 24 = .ok (.putfield 523, 3) := by decide +kernel
theorem dX11_save_27 : decode cX11_save 27 = .ok (.aload_n 0, 1) := by decide +kernel
theorem dX11_save_28 : decode cX11_save 28 = .ok (.invokevirtual 366, 3) := by decide +kernel
theorem dX11_save_31 : decode cX11_save 31 = .ok (.ireturn, 1) := by decide +kernel
set_option maxRecDepth 20000 in
theorem ggX11_restore_X2_copyFrom : GoodIn wsX11_restore wsX2_copyFrom := goodIn_s _ [(13, 25), (141, 12)] rfl (by decide +kernel)
set_option maxRecDepth 20000 in
theorem gX11_restore_X2_copyFrom : GoodIn wsX11_restore (wsV RX11 131 RX2 yX2_copyFrom wsX2_copyFrom) := goodIn_app (goodIn_of _ (by decide +kernel)) ggX11_restore_X2_copyFrom
set_option maxRecDepth 20000 in
theorem ggX11_restore_X8_copyFrom : GoodIn wsX11_restore wsX8_copyFrom := goodIn_s _ [(42, 8), (30, 8), (23, 3), (153, 7)] rfl (by decide +kernel)
set_option maxRecDepth 20000 in
theorem gX11_restore_X8_copyFrom : GoodIn wsX11_restore (wsV RX11 439 RX8 yX8_copyFrom wsX8_copyFrom) := goodIn_app (goodIn_of _ (by decide +kernel)) ggX11_restore_X8_copyFrom
set_option maxRecDepth 20000 in
theorem ggX11_restore_X3_forget : GoodIn wsX11_restore wsX3_forget := goodIn_s _ [(54, 2), (160, 3)] rfl (by decide +kernel)
set_option maxRecDepth 20000 in
theorem gX11_restore_X3_forget : GoodIn wsX11_restore (wsV RX11 138 RX3 yX3_forget wsX3_forget) := goodIn_app (goodIn_of _ (by decide +kernel)) ggX11_restore_X3_forget
set_option maxRecDepth 20000 in
theorem ggX11_restore_X11_cut : GoodIn wsX11_restore wsX11_cut := goodIn_s _ [(59, 2), (4, 1), (6, 1), (61, 17), (41, 1), (78, 1), (47, 1), (43, 1), (79, 1), (31, 1), (80, 4), (12, 1), (84, 1), (16, 2), (19, 1), (85, 56), (163, 12), (141, 19)] rfl (by decide +kernel)
set_option maxRecDepth 20000 in
theorem gX11_restore_X11_cut : GoodIn wsX11_restore (wsV RX11 366 RX11 yX11_cut wsX11_cut) := goodIn_app (goodIn_of _ (by decide +kernel)) ggX11_restore_X11_cut
theorem dX11_restore_0 : decode cX11_restore 0 = .ok (.aload_n 0, 1) := by decide +kernel
theorem dX11_restore_1 : decode cX11_restore 1 = .ok (.getfield 523, 3) := by decide +kernel
theorem dX11_restore_4 : decode cX11_restore 4 = .ok (.ifCond .ne 14, 3) := by decide +kernel
theorem dX11_restore_7 : decode cX11_restore 7 = .ok (.new 106, 3) := by decide +kernel
theorem dX11_restore_10 : decode cX11_restore 10 = .ok (.dup, 1) := by decide +kernel
theorem dX11_restore_11 : decode cX11_restore 11 = .ok (.ldc_w 526, 3) := by decide +kernel
theorem dX11_restore_14 : decode cX11_restore 14 = .ok (.invokespecial 110, 3) := by decide +kernel
theorem dX11_restore_17 : decode cX11_restore 17 = .ok (.athrow, 1) := by decide +kernel
theorem dX11_restore_18 : decode cX11_restore 18 = .ok (.aload_n 0, 1) := by decide +kernel
theorem dX11_restore_19 : decode cX11_restore 19 = .ok (.getfield 40, 3) := by decide +kernel
theorem dX11_restore_22 : decode cX11_restore 22 = .ok (.aload_n 0, 1) := by decide +kernel
theorem dX11_restore_23 : decode cX11_restore 23 = .ok (.getfield 47, 3) := by decide +kernel
theorem dX11_restore_26 : decode cX11_restore 26 = .ok (.invokevirtual 131, 3) := by decide +kernel
theorem dX11_restore_29 : decode cX11_restore 29 = .ok (.aload_n 0, 1) := by decide +kernel
theorem dX11_restore_30 : decode cX11_restore 30 = .ok (.getfield 53, 3) := by decide +kernel
theorem dX11_restore_33 : decode cX11_restore 33 = .ok (.aload_n 0, 1) := by decide +kernel
theorem dX11_restore_34 : decode cX11_restore 34 = .ok (.getfield 60, 3) := by decide +kernel
theorem dX11_restore_37 : decode cX11_restore 37 = .ok (.invokevirtual 439, 3) := by decide +kernel
theorem dX11_restore_40 : decode cX11_restore 40 = .ok (.aload_n 0, 1) := by decide +kernel
theorem dX11_restore_41 : decode cX11_restore 41 = .ok (.getfield 66, 3) := by decide +kernel
theorem dX11_restore_44 : decode cX11_restore 44 = .ok (.invokevirtual 138, 3) := by decide +kernel
theorem dX11_restore_47 : decode cX11_restore 47 = .ok (.aload_n 0, 1) := by decide +kernel
