theorem dX12_shrink_0 : decode cX12_shrink 0 = .ok (.aload_n 0, 1) := by decide +kernel
theorem dX12_shrink_1 : decode cX12_shrink 1 = .ok (.aload_n 0, 1) := by decide +kernel
theorem dX12_shrink_2 : decode cX12_shrink 2 = .ok (.invokevirtual 346, 3) := by decide +kernel
theorem dX12_shrink_5 : decode cX12_shrink 5 = .ok (.ifCond .ne 7, 3) := by decide +kernel
theorem dX12_shrink_8 : decode cX12_shrink 8 = .ok (.iconst 1, 1) := by decide +kernel
theorem dX12_shrink_9 : decode cX12_shrink 9 = .ok (.goto 4, 3) := by decide +kernel
theorem dX12_shrink_12 : decode cX12_shrink 12 = .ok (.iconst 0, 1) := by decide +kernel
theorem dX12_shrink_13 : decode cX12_shrink 13 = .ok (.invokevirtual 100, 3) := by decide +kernel
theorem dX12_shrink_16 : decode cX12_shrink 16 = .ok (.ifCond .ne 5, 3) := by decide +kernel
theorem dX12_shrink_19 : decode cX12_shrink 19 = .ok (.iconst 0, 1) := by decide +kernel
theorem dX12_shrink_20 : decode cX12_shrink 20 = .ok (.ireturn, 1) := by decide +kernel
theorem dX12_shrink_21 : decode cX12_shrink 21 = .ok (.aload_n 0, 1) := by decide +kernel
theorem dX12_shrink_22 : decode cX12_shrink 22 = .ok (.invokevirtual 233, 3) := by decide +kernel
theorem dX12_shrink_25 : decode cX12_shrink 25 = .ok (.aload_n 0, 1) := by decide +kernel
theorem dX12_shrink_26 : decode cX12_shrink 26 = .ok (.aload_n 0, 1) := by decide +kernel
theorem dX12_shrink_27 : decode cX12_shrink 27 = .ok (.invokevirtual 405, 3) := by decide +kernel
theorem dX12_shrink_30 : decode cX12_shrink 30 = .ok (.invokevirtual 408, 3) := by decide +kernel
theorem dX12_shrink_33 : decode cX12_shrink 33 = .ok (.ireturn, 1) := by decide +kernel
set_option maxRecDepth 20000 in
theorem ggX12_grow_X12_goes : GoodIn wsX12_grow wsX12_goes := goodIn_s _ [(6, 4), (5, 1), (10, 1), (34, 48)] rfl (by decide +kernel)
set_option maxRecDepth 20000 in
theorem gX12_grow_X12_goes : GoodIn wsX12_grow (wsV RX12 100 RX12 yX12_goes wsX12_goes) := goodIn_app (goodIn_of _ (by decide +kernel)) ggX12_grow_X12_goes
set_option maxRecDepth 20000 in
theorem ggX12_grow_X12_laysAside : GoodIn wsX12_grow wsX12_laysAside := goodIn_s _ [(14, 2), (1, 1), (34, 48)] rfl (by decide +kernel)
set_option maxRecDepth 20000 in
theorem gX12_grow_X12_laysAside : GoodIn wsX12_grow (wsV RX12 233 RX12 yX12_laysAside wsX12_laysAside) := goodIn_app (goodIn_of _ (by decide +kernel)) ggX12_grow_X12_laysAside
set_option maxRecDepth 20000 in
theorem ggX12_grow_X12_grows : GoodIn wsX12_grow wsX12_grows := goodIn_s _ [(19, 1), (1, 1), (20, 3), (5, 1), (23, 1), (34, 48)] rfl (by decide +kernel)
set_option maxRecDepth 20000 in
theorem gX12_grow_X12_grows : GoodIn wsX12_grow (wsV RX12 410 RX12 yX12_grows wsX12_grows) := goodIn_app (goodIn_of _ (by decide +kernel)) ggX12_grow_X12_grows
set_option maxRecDepth 20000 in
theorem ggX12_grow_X12_kept : GoodIn wsX12_grow wsX12_kept := goodIn_s _ [(27, 4), (5, 1), (31, 3), (15, 1), (34, 48)] rfl (by decide +kernel)
set_option maxRecDepth 20000 in
theorem gX12_grow_X12_kept : GoodIn wsX12_grow (wsV RX12 408 RX12 yX12_kept wsX12_kept) := goodIn_app (goodIn_of _ (by decide +kernel)) ggX12_grow_X12_kept
theorem dX12_grow_0 : decode cX12_grow 0 = .ok (.aload_n 0, 1) := by decide +kernel
theorem dX12_grow_1 : decode cX12_grow 1 = .ok (.aload_n 0, 1) := by decide +kernel
theorem dX12_grow_2 : decode cX12_grow 2 = .ok (.getfield 26, 3) := by decide +kernel
theorem dX12_grow_5 : decode cX12_grow 5 = .ok (.iconst 5, 1) := by decide +kernel
theorem dX12_grow_6 : decode cX12_grow 6 = .ok (.iaload, 1) := by decide +kernel
theorem dX12_grow_7 : decode cX12_grow 7 = .ok (.ifCond .le 7, 3) := by decide +kernel
theorem dX12_grow_10 : decode cX12_grow 10 = .ok (.iconst 1, 1) := by decide +kernel
theorem dX12_grow_11 : decode cX12_grow 11 = .ok (.goto 4, 3) := by decide +kernel
theorem dX12_grow_14 : decode cX12_grow 14 = .ok (.iconst 0, 1) := by decide +kernel
theorem dX12_grow_15 : decode cX12_grow 15 = .ok (.invokevirtual 100, 3) := by decide +kernel
theorem dX12_grow_18 : decode cX12_grow 18 = .ok (.ifCond .ne 5, 3) := by decide +kernel
theorem dX12_grow_21 : decode cX12_grow 21 = .ok (.iconst 0, 1) := by decide +kernel
theorem dX12_grow_22 : decode cX12_grow 22 = .ok (.ireturn, 1) := by decide +kernel
theorem dX12_grow_23 : decode cX12_grow 23 = .ok (.aload_n 0, 1) := by decide +kernel
theorem dX12_grow_24 : decode cX12_grow 24 = .ok (.invokevirtual 233, 3) := by decide +kernel
theorem dX12_grow_27 : decode cX12_grow 27 = .ok (.aload_n 0, 1) := by decide +kernel
theorem dX12_grow_28 : decode cX12_grow 28 = .ok (.aload_n 0, 1) := by decide +kernel
theorem dX12_grow_29 : decode cX12_grow 29 = .ok (.invokevirtual 410, 3) := by decide +kernel
theorem dX12_grow_32 : decode cX12_grow 32 = .ok (.invokevirtual 408, 3) := by decide +kernel
theorem dX12_grow_35 : decode cX12_grow 35 = .ok (.ireturn, 1) := by decide +kernel
set_option maxRecDepth 20000 in
theorem ggX12_move_X12_areThere : GoodIn wsX12_move wsX12_areThere := goodIn_s _ [(5, 4), (4, 1), (9, 13), (101, 48)] rfl (by decide +kernel)
set_option maxRecDepth 20000 in
theorem gX12_move_X12_areThere : GoodIn wsX12_move (wsV RX12 352 RX12 yX12_areThere wsX12_areThere) := goodIn_app (goodIn_of _ (by decide +kernel)) ggX12_move_X12_areThere
set_option maxRecDepth 20000 in
theorem ggX12_move_X12_whyMove : GoodIn wsX12_move wsX12_whyMove := goodIn_s _ [(25, 1), (14, 1), (26, 3), (4, 1), (29, 36), (101, 48)] rfl (by decide +kernel)
set_option maxRecDepth 20000 in
theorem gX12_move_X12_whyMove : GoodIn wsX12_move (wsV RX12 358 RX12 yX12_whyMove wsX12_whyMove) := goodIn_app (goodIn_of _ (by decide +kernel)) ggX12_move_X12_whyMove
set_option maxRecDepth 20000 in
theorem ggX12_move_X12_goesBoth : GoodIn wsX12_move wsX12_goesBoth := goodIn_s _ [(68, 2), (101, 48)] rfl (by decide +kernel)
set_option maxRecDepth 20000 in
theorem gX12_move_X12_goesBoth : GoodIn wsX12_move (wsV RX12 273 RX12 yX12_goesBoth wsX12_goesBoth) := goodIn_app (goodIn_of _ (by decide +kernel)) ggX12_move_X12_goesBoth
set_option maxRecDepth 20000 in
theorem ggX12_move_X12_laysAside : GoodIn wsX12_move wsX12_laysAside := goodIn_s _ [(73, 2), (14, 1), (101, 48)] rfl (by decide +kernel)
set_option maxRecDepth 20000 in
theorem gX12_move_X12_laysAside : GoodIn wsX12_move (wsV RX12 233 RX12 yX12_laysAside wsX12_laysAside) := goodIn_app (goodIn_of _ (by decide +kernel)) ggX12_move_X12_laysAside
set_option maxRecDepth 20000 in
theorem ggX12_move_X12_moves : GoodIn wsX12_move wsX12_moves := goodIn_s _ [(78, 4), (4, 1), (82, 1), (14, 1), (26, 8), (83, 8), (101, 48)] rfl (by decide +kernel)
set_option maxRecDepth 20000 in
theorem gX12_move_X12_moves : GoodIn wsX12_move (wsV RX12 402 RX12 yX12_moves wsX12_moves) := goodIn_app (goodIn_of _ (by decide +kernel)) ggX12_move_X12_moves
set_option maxRecDepth 20000 in
theorem ggX12_move_X12_kept : GoodIn wsX12_move wsX12_kept := goodIn_s _ [(94, 4), (4, 1), (98, 3), (74, 1), (101, 48)] rfl (by decide +kernel)
set_option maxRecDepth 20000 in
theorem gX12_move_X12_kept : GoodIn wsX12_move (wsV RX12 408 RX12 yX12_kept wsX12_kept) := goodIn_app (goodIn_of _ (by decide +kernel)) ggX12_move_X12_kept
theorem dX12_move_0 : decode cX12_move 0 = .ok (.aload_n 0, 1) := by decide +kernel
theorem dX12_move_1 : decode cX12_move 1 = .ok (.iload_n 1, 1) := by decide +kernel
theorem dX12_move_2 : decode cX12_move 2 = .ok (.iload_n 2, 1) := by decide +kernel
theorem dX12_move_3 : decode cX12_move 3 = .ok (.invokevirtual 352, 3) := by decide +kernel
theorem dX12_move_6 : decode cX12_move 6 = .ok (.istore_n 3, 1) := by decide +kernel
theorem dX12_move_7 : decode cX12_move 7 = .ok (.aload_n 0, 1) := by decide +kernel
theorem dX12_move_8 : decode cX12_move 8 = .ok (.iload_n 3, 1) := by decide +kernel
theorem dX12_move_9 : decode cX12_move 9 = .ok (.iload_n 3, 1) := by decide +kernel
theorem dX12_move_10 : decode cX12_move 10 = .ok (.ifCond .eq 16, 3) := by decide +kernel
theorem dX12_move_13 : decode cX12_move 13 = .ok (.aload_n 0, 1) := by decide +kernel
theorem dX12_move_14 : decode cX12_move 14 = .ok (.iload_n 1, 1) := by decide +kernel
theorem dX12_move_15 : decode cX12_move 15 = .ok (.iload_n 2, 1) := by decide +kernel
theorem dX12_move_16 : decode cX12_move 16 = .ok (.invokevirtual 358, 3) := by decide +kernel
theorem dX12_move_19 : decode cX12_move 19 = .ok (.ifCond .ne 7, 3) := by decide +kernel
theorem dX12_move_22 : decode cX12_move 22 = .ok (.iconst 1, 1) := by decide +kernel
theorem dX12_move_23 : decode cX12_move 23 = .ok (.goto 4, 3) := by decide +kernel
theorem dX12_move_26 : decode cX12_move 26 = .ok (.iconst 0, 1) := by decide +kernel
theorem dX12_move_27 : decode cX12_move 27 = .ok (.invokevirtual 273, 3) := by decide +kernel
theorem dX12_move_30 : decode cX12_move 30 = .ok (.ifCond .ne 5, 3) := by decide +kernel
theorem dX12_move_33 : decode cX12_move 33 = .ok (.iconst 0, 1) := by decide +kernel
theorem dX12_move_34 : decode cX12_move 34 = .ok (.ireturn, 1) := by decide +kernel
theorem dX12_move_35 : decode cX12_move 35 = .ok (.aload_n 0, 1) := by decide +kernel
theorem dX12_move_36 : decode cX12_move 36 = .ok (.invokevirtual 233, 3) := by decide +kernel
theorem dX12_move_39 : decode cX12_move 39 = .ok (.aload_n 0, 1) := by decide +kernel
theorem dX12_move_40 : decode cX12_move 40 = .ok (.aload_n 0, 1) := by decide +kernel
theorem dX12_move_41 : decode cX12_move 41 = .ok (.iload_n 1, 1) := by decide +kernel
theorem dX12_move_42 : decode cX12_move 42 = .ok (.iload_n 2, 1) := by decide +kernel
theorem dX12_move_43 : decode cX12_move 43 = .ok (.invokevirtual 402, 3) := by decide +kernel
theorem dX12_move_46 : decode cX12_move 46 = .ok (.invokevirtual 408, 3) := by decide +kernel
theorem dX12_move_49 : decode cX12_move 49 = .ok (.ireturn, 1) := by decide +kernel
set_option maxRecDepth 20000 in
theorem ggX12_step_X12_laysAside : GoodIn wsX12_step wsX12_laysAside := goodIn_s _ [(6, 3), (98, 48)] rfl (by decide +kernel)
set_option maxRecDepth 20000 in
theorem gX12_step_X12_laysAside : GoodIn wsX12_step (wsV RX12 233 RX12 yX12_laysAside wsX12_laysAside) := goodIn_app (goodIn_of _ (by decide +kernel)) ggX12_step_X12_laysAside
set_option maxRecDepth 20000 in
theorem ggX12_step_X12_stepNow : GoodIn wsX12_step wsX12_stepNow := goodIn_s _ [(12, 4), (5, 1), (16, 5), (8, 1), (21, 67), (98, 48)] rfl (by decide +kernel)
set_option maxRecDepth 20000 in
theorem gX12_step_X12_stepNow : GoodIn wsX12_step (wsV RX12 384 RX12 yX12_stepNow wsX12_stepNow) := goodIn_app (goodIn_of _ (by decide +kernel)) ggX12_step_X12_stepNow
set_option maxRecDepth 20000 in
theorem ggX12_step_X12_kept : GoodIn wsX12_step wsX12_kept := goodIn_s _ [(91, 4), (5, 1), (95, 3), (7, 1), (98, 48)] rfl (by decide +kernel)
set_option maxRecDepth 20000 in
theorem gX12_step_X12_kept : GoodIn wsX12_step (wsV RX12 408 RX12 yX12_kept wsX12_kept) := goodIn_app (goodIn_of _ (by decide +kernel)) ggX12_step_X12_kept
theorem dX12_step_0 : decode cX12_step 0 = .ok (.aload_n 0, 1) := by decide +kernel
theorem dX12_step_1 : decode cX12_step 1 = .ok (.iconst 0, 1) := by decide +kernel
theorem dX12_step_2 : decode cX12_step 2 = .ok (.putfield 90, 3) := by decide +kernel
theorem dX12_step_5 : decode cX12_step 5 = .ok (.aload_n 0, 1) := by decide +kernel
theorem dX12_step_6 : decode cX12_step 6 = .ok (.invokevirtual 233, 3) := by decide +kernel
theorem dX12_step_9 : decode cX12_step 9 = .ok (.aload_n 0, 1) := by decide +kernel
theorem dX12_step_10 : decode cX12_step 10 = .ok (.invokevirtual 384, 3) := by decide +kernel
theorem dX12_step_13 : decode cX12_step 13 = .ok (.istore_n 1, 1) := by decide +kernel
theorem dX12_step_14 : decode cX12_step 14 = .ok (.iload_n 1, 1) := by decide +kernel
theorem dX12_step_15 : decode cX12_step 15 = .ok (.iconst (-1), 1) := by decide +kernel
theorem dX12_step_16 : decode cX12_step 16 = .ok (.if_icmp .ne 7, 3) := by decide +kernel
theorem dX12_step_19 : decode cX12_step 19 = .ok (.iconst (-1), 1) := by decide +kernel
theorem dX12_step_20 : decode cX12_step 20 = .ok (.goto 8, 3) := by decide +kernel
theorem dX12_step_23 : decode cX12_step 23 = .ok (.aload_n 0, 1) := by decide +kernel
theorem dX12_step_24 : decode cX12_step 24 = .ok (.iload_n 1, 1) := by decide +kernel
theorem dX12_step_25 : decode cX12_step 25 = .ok (.invokevirtual 408, 3) := by decide +kernel
theorem dX12_step_28 : decode cX12_step 28 = .ok (.ireturn, 1) := by decide +kernel
set_option maxRecDepth 20000 in
theorem ggX12_steps_X12_isIn : GoodIn wsX12_steps wsX12_isIn := goodIn_s _ [(5, 1)] rfl (by decide +kernel)
set_option maxRecDepth 20000 in
theorem gX12_steps_X12_isIn : GoodIn wsX12_steps (va_wsS RX12 108 yX12_isIn wsX12_isIn) := goodIn_app (goodIn_of _ (by decide +kernel)) ggX12_steps_X12_isIn
set_option maxRecDepth 20000 in
theorem ggX12_steps_X12_goes : GoodIn wsX12_steps wsX12_goes := goodIn_s _ [(9, 4), (4, 1), (13, 1), (110, 48)] rfl (by decide +kernel)
set_option maxRecDepth 20000 in
theorem gX12_steps_X12_goes : GoodIn wsX12_steps (wsV RX12 100 RX12 yX12_goes wsX12_goes) := goodIn_app (goodIn_of _ (by decide +kernel)) ggX12_steps_X12_goes
set_option maxRecDepth 20000 in
theorem ggX12_steps_X12_laysAside : GoodIn wsX12_steps wsX12_laysAside := goodIn_s _ [(17, 3), (110, 48)] rfl (by decide +kernel)
set_option maxRecDepth 20000 in
theorem gX12_steps_X12_laysAside : GoodIn wsX12_steps (wsV RX12 233 RX12 yX12_laysAside wsX12_laysAside) := goodIn_app (goodIn_of _ (by decide +kernel)) ggX12_steps_X12_laysAside
set_option maxRecDepth 20000 in
theorem ggX12_steps_X12_stepsNow : GoodIn wsX12_steps wsX12_stepsNow := goodIn_s _ [(23, 4), (4, 1), (27, 9), (19, 1), (36, 44), (11, 3), (80, 20), (110, 48)] rfl (by decide +kernel)
set_option maxRecDepth 20000 in
theorem gX12_steps_X12_stepsNow : GoodIn wsX12_steps (wsV RX12 390 RX12 yX12_stepsNow wsX12_stepsNow) := goodIn_app (goodIn_of _ (by decide +kernel)) ggX12_steps_X12_stepsNow
set_option maxRecDepth 20000 in
theorem ggX12_steps_X12_kept : GoodIn wsX12_steps wsX12_kept := goodIn_s _ [(103, 4), (4, 1), (107, 3), (18, 1), (110, 48)] rfl (by decide +kernel)
set_option maxRecDepth 20000 in
theorem gX12_steps_X12_kept : GoodIn wsX12_steps (wsV RX12 408 RX12 yX12_kept wsX12_kept) := goodIn_app (goodIn_of _ (by decide +kernel)) ggX12_steps_X12_kept
theorem dX12_steps_0 : decode cX12_steps 0 = .ok (.aload_n 0, 1) := by decide +kernel
theorem dX12_steps_1 : decode cX12_steps 1 = .ok (.iload_n 1, 1) := by decide +kernel
theorem dX12_steps_2 : decode cX12_steps 2 = .ok (.i2l, 1) := by decide +kernel
theorem dX12_steps_3 : decode cX12_steps 3 = .ok (.lconst 1, 1) := by decide +kernel
theorem dX12_steps_4 : decode cX12_steps 4 = .ok (.ldc2_w 413, 3) := by decide +kernel
theorem dX12_steps_7 : decode cX12_steps 7 = .ok (.invokestatic 108, 3) := by decide +kernel
theorem dX12_steps_10 : decode cX12_steps 10 = .ok (.invokevirtual 100, 3) := by decide +kernel
theorem dX12_steps_13 : decode cX12_steps 13 = .ok (.ifCond .ne 5, 3) := by decide +kernel
theorem dX12_steps_16 : decode cX12_steps 16 = .ok (.iconst 0, 1) := by decide +kernel
theorem dX12_steps_17 : decode cX12_steps 17 = .ok (.ireturn, 1) := by decide +kernel
theorem dX12_steps_18 : decode cX12_steps 18 = .ok (.aload_n 0, 1) := by decide +kernel
theorem dX12_steps_19 : decode cX12_steps 19 = .ok (.invokevirtual 233, 3) := by decide +kernel
theorem dX12_steps_22 : decode cX12_steps 22 = .ok (.aload_n 0, 1) := by decide +kernel
theorem dX12_steps_23 : decode cX12_steps 23 = .ok (.aload_n 0, 1) := by decide +kernel
theorem dX12_steps_24 : decode cX12_steps 24 = .ok (.iload_n 1, 1) := by decide +kernel
theorem dX12_steps_25 : decode cX12_steps 25 = .ok (.invokevirtual 390, 3) := by decide +kernel
theorem dX12_steps_28 : decode cX12_steps 28 = .ok (.invokevirtual 408, 3) := by decide +kernel
theorem dX12_steps_31 : decode cX12_steps 31 = .ok (.ireturn, 1) := by decide +kernel
set_option maxRecDepth 20000 in
theorem ggX12_placeBest_X12_groups : GoodIn wsX12_placeBest wsX12_groups := goodIn_s _ [(5, 2), (85, 48)] rfl (by decide +kernel)
set_option maxRecDepth 20000 in
theorem gX12_placeBest_X12_groups : GoodIn wsX12_placeBest (wsV RX12 177 RX12 yX12_groups wsX12_groups) := goodIn_app (goodIn_of _ (by decide +kernel)) ggX12_placeBest_X12_groups
set_option maxRecDepth 20000 in
theorem ggX12_placeBest_X12_goes : GoodIn wsX12_placeBest wsX12_goes := goodIn_s _ [(10, 4), (4, 1), (14, 1), (85, 48)] rfl (by decide +kernel)
set_option maxRecDepth 20000 in
theorem gX12_placeBest_X12_goes : GoodIn wsX12_placeBest (wsV RX12 100 RX12 yX12_goes wsX12_goes) := goodIn_app (goodIn_of _ (by decide +kernel)) ggX12_placeBest_X12_goes
set_option maxRecDepth 20000 in
theorem ggX12_placeBest_X12_laysAside : GoodIn wsX12_placeBest wsX12_laysAside := goodIn_s _ [(18, 2), (6, 1), (85, 48)] rfl (by decide +kernel)
set_option maxRecDepth 20000 in
theorem gX12_placeBest_X12_laysAside : GoodIn wsX12_placeBest (wsV RX12 233 RX12 yX12_laysAside wsX12_laysAside) := goodIn_app (goodIn_of _ (by decide +kernel)) ggX12_placeBest_X12_laysAside
set_option maxRecDepth 20000 in
theorem ggX12_placeBest_X12_placesBest : GoodIn wsX12_placeBest wsX12_placesBest := goodIn_s _ [(23, 5), (4, 1), (28, 1), (6, 1), (29, 4), (1, 3), (5, 1), (33, 42), (12, 3), (85, 48)] rfl (by decide +kernel)
set_option maxRecDepth 20000 in
theorem gX12_placeBest_X12_placesBest : GoodIn wsX12_placeBest (wsV RX12 415 RX12 yX12_placesBest wsX12_placesBest) := goodIn_app (goodIn_of _ (by decide +kernel)) ggX12_placeBest_X12_placesBest
set_option maxRecDepth 20000 in
theorem ggX12_placeBest_X12_kept : GoodIn wsX12_placeBest wsX12_kept := goodIn_s _ [(78, 4), (4, 1), (82, 3), (19, 1), (85, 48)] rfl (by decide +kernel)
set_option maxRecDepth 20000 in
theorem gX12_placeBest_X12_kept : GoodIn wsX12_placeBest (wsV RX12 408 RX12 yX12_kept wsX12_kept) := goodIn_app (goodIn_of _ (by decide +kernel)) ggX12_placeBest_X12_kept
theorem dX12_placeBest_0 : decode cX12_placeBest 0 = .ok (.aload_n 0, 1) := by decide +kernel
theorem dX12_placeBest_1 : decode cX12_placeBest 1 = .ok (.aload_n 0, 1) := by decide +kernel
theorem dX12_placeBest_2 : decode cX12_placeBest 2 = .ok (.invokevirtual 177, 3) := by decide +kernel
theorem dX12_placeBest_5 : decode cX12_placeBest 5 = .ok (.bipush 7, 2) := by decide +kernel
theorem dX12_placeBest_7 : decode cX12_placeBest 7 = .ok (.if_icmp .gt 7, 3) := by decide +kernel
theorem dX12_placeBest_10 : decode cX12_placeBest 10 = .ok (.iconst 1, 1) := by decide +kernel
theorem dX12_placeBest_11 : decode cX12_placeBest 11 = .ok (.goto 4, 3) := by decide +kernel
theorem dX12_placeBest_14 : decode cX12_placeBest 14 = .ok (.iconst 0, 1) := by decide +kernel
theorem dX12_placeBest_15 : decode cX12_placeBest 15 = .ok (.invokevirtual 100, 3) := by decide +kernel
theorem dX12_placeBest_18 : decode cX12_placeBest 18 = .ok (.ifCond .ne 5, 3) := by decide +kernel
theorem dX12_placeBest_21 : decode cX12_placeBest 21 = .ok (.iconst 0, 1) := by decide +kernel
theorem dX12_placeBest_22 : decode cX12_placeBest 22 = .ok (.ireturn, 1) := by decide +kernel
theorem dX12_placeBest_23 : decode cX12_placeBest 23 = .ok (.aload_n 0, 1) := by decide +kernel
theorem dX12_placeBest_24 : decode cX12_placeBest 24 = .ok (.invokevirtual 233, 3) := by decide +kernel
theorem dX12_placeBest_27 : decode cX12_placeBest 27 = .ok (.aload_n 0, 1) := by decide +kernel
theorem dX12_placeBest_28 : decode cX12_placeBest 28 = .ok (.aload_n 0, 1) := by decide +kernel
theorem dX12_placeBest_29 : decode cX12_placeBest 29 = .ok (.invokevirtual 415, 3) := by decide +kernel
theorem dX12_placeBest_32 : decode cX12_placeBest 32 = .ok (.invokevirtual 408, 3) := by decide +kernel
theorem dX12_placeBest_35 : decode cX12_placeBest 35 = .ok (.ireturn, 1) := by decide +kernel
set_option maxRecDepth 20000 in
theorem ggX12_placeApart_X12_areVertices : GoodIn wsX12_placeApart wsX12_areVertices := goodIn_s _ [(6, 4), (5, 1), (10, 5), (82, 48)] rfl (by decide +kernel)
set_option maxRecDepth 20000 in
theorem gX12_placeApart_X12_areVertices : GoodIn wsX12_placeApart (wsV RX12 280 RX12 yX12_areVertices wsX12_areVertices) := goodIn_app (goodIn_of _ (by decide +kernel)) ggX12_placeApart_X12_areVertices
set_option maxRecDepth 20000 in
theorem ggX12_placeApart_X12_goesBoth : GoodIn wsX12_placeApart wsX12_goesBoth := goodIn_s _ [(18, 1), (1, 1), (82, 48)] rfl (by decide +kernel)
set_option maxRecDepth 20000 in
theorem gX12_placeApart_X12_goesBoth : GoodIn wsX12_placeApart (wsV RX12 273 RX12 yX12_goesBoth wsX12_goesBoth) := goodIn_app (goodIn_of _ (by decide +kernel)) ggX12_placeApart_X12_goesBoth
set_option maxRecDepth 20000 in
theorem ggX12_placeApart_X12_mayApart : GoodIn wsX12_placeApart wsX12_mayApart := goodIn_s _ [(22, 1), (11, 1), (82, 48)] rfl (by decide +kernel)
set_option maxRecDepth 20000 in
theorem gX12_placeApart_X12_mayApart : GoodIn wsX12_placeApart (wsV RX12 418 RX12 yX12_mayApart wsX12_mayApart) := goodIn_app (goodIn_of _ (by decide +kernel)) ggX12_placeApart_X12_mayApart
set_option maxRecDepth 20000 in
theorem ggX12_placeApart_X12_laysAside : GoodIn wsX12_placeApart wsX12_laysAside := goodIn_s _ [(26, 2), (11, 1), (82, 48)] rfl (by decide +kernel)
set_option maxRecDepth 20000 in
theorem gX12_placeApart_X12_laysAside : GoodIn wsX12_placeApart (wsV RX12 233 RX12 yX12_laysAside wsX12_laysAside) := goodIn_app (goodIn_of _ (by decide +kernel)) ggX12_placeApart_X12_laysAside
set_option maxRecDepth 20000 in
theorem ggX12_placeApart_X12_placesApart : GoodIn wsX12_placeApart wsX12_placesApart := goodIn_s _ [(31, 2), (11, 1), (33, 3), (5, 1), (36, 36), (82, 48)] rfl (by decide +kernel)
set_option maxRecDepth 20000 in
theorem gX12_placeApart_X12_placesApart : GoodIn wsX12_placeApart (wsV RX12 421 RX12 yX12_placesApart wsX12_placesApart) := goodIn_app (goodIn_of _ (by decide +kernel)) ggX12_placeApart_X12_placesApart
set_option maxRecDepth 20000 in
theorem ggX12_placeApart_X12_kept : GoodIn wsX12_placeApart wsX12_kept := goodIn_s _ [(75, 4), (5, 1), (79, 3), (27, 1), (82, 48)] rfl (by decide +kernel)
set_option maxRecDepth 20000 in
theorem gX12_placeApart_X12_kept : GoodIn wsX12_placeApart (wsV RX12 408 RX12 yX12_kept wsX12_kept) := goodIn_app (goodIn_of _ (by decide +kernel)) ggX12_placeApart_X12_kept
theorem dX12_placeApart_0 : decode cX12_placeApart 0 = .ok (.aload_n 0, 1) := by decide +kernel
theorem dX12_placeApart_1 : decode cX12_placeApart 1 = .ok (.iload_n 1, 1) := by decide +kernel
theorem dX12_placeApart_2 : decode cX12_placeApart 2 = .ok (.iload_n 2, 1) := by decide +kernel
theorem dX12_placeApart_3 : decode cX12_placeApart 3 = .ok (.invokevirtual 280, 3) := by decide +kernel
theorem dX12_placeApart_6 : decode cX12_placeApart 6 = .ok (.istore_n 3, 1) := by decide +kernel
theorem dX12_placeApart_7 : decode cX12_placeApart 7 = .ok (.aload_n 0, 1) := by decide +kernel
theorem dX12_placeApart_8 : decode cX12_placeApart 8 = .ok (.iload_n 3, 1) := by decide +kernel
theorem dX12_placeApart_9 : decode cX12_placeApart 9 = .ok (.iload_n 3, 1) := by decide +kernel
theorem dX12_placeApart_10 : decode cX12_placeApart 10 = .ok (.ifCond .eq 12, 3) := by decide +kernel
theorem dX12_placeApart_13 : decode cX12_placeApart 13 = .ok (.iload_n 1, 1) := by decide +kernel
theorem dX12_placeApart_14 : decode cX12_placeApart 14 = .ok (.iload_n 2, 1) := by decide +kernel
theorem dX12_placeApart_15 : decode cX12_placeApart 15 = .ok (.if_icmp .eq 7, 3) := by decide +kernel
theorem dX12_placeApart_18 : decode cX12_placeApart 18 = .ok (.iconst 1, 1) := by decide +kernel
theorem dX12_placeApart_19 : decode cX12_placeApart 19 = .ok (.goto 4, 3) := by decide +kernel
theorem dX12_placeApart_22 : decode cX12_placeApart 22 = .ok (.iconst 0, 1) := by decide +kernel
theorem dX12_placeApart_23 : decode cX12_placeApart 23 = .ok (.invokevirtual 273, 3) := by decide +kernel
theorem dX12_placeApart_26 : decode cX12_placeApart 26 = .ok (.ifCond .ne 5, 3) := by decide +kernel
theorem dX12_placeApart_29 : decode cX12_placeApart 29 = .ok (.iconst 0, 1) := by decide +kernel
theorem dX12_placeApart_30 : decode cX12_placeApart 30 = .ok (.ireturn, 1) := by decide +kernel
theorem dX12_placeApart_31 : decode cX12_placeApart 31 = .ok (.aload_n 0, 1) := by decide +kernel
theorem dX12_placeApart_32 : decode cX12_placeApart 32 = .ok (.aload_n 0, 1) := by decide +kernel
theorem dX12_placeApart_33 : decode cX12_placeApart 33 = .ok (.invokevirtual 418, 3) := by decide +kernel
theorem dX12_placeApart_36 : decode cX12_placeApart 36 = .ok (.ifCond .eq 7, 3) := by decide +kernel
theorem dX12_placeApart_39 : decode cX12_placeApart 39 = .ok (.iconst 0, 1) := by decide +kernel
theorem dX12_placeApart_40 : decode cX12_placeApart 40 = .ok (.goto 4, 3) := by decide +kernel
theorem dX12_placeApart_43 : decode cX12_placeApart 43 = .ok (.iconst 3, 1) := by decide +kernel
theorem dX12_placeApart_44 : decode cX12_placeApart 44 = .ok (.putfield 90, 3) := by decide +kernel
theorem dX12_placeApart_47 : decode cX12_placeApart 47 = .ok (.aload_n 0, 1) := by decide +kernel
theorem dX12_placeApart_48 : decode cX12_placeApart 48 = .ok (.getfield 90, 3) := by decide +kernel
theorem dX12_placeApart_51 : decode cX12_placeApart 51 = .ok (.ifCond .le 5, 3) := by decide +kernel
theorem dX12_placeApart_54 : decode cX12_placeApart 54 = .ok (.iconst 0, 1) := by decide +kernel
theorem dX12_placeApart_55 : decode cX12_placeApart 55 = .ok (.ireturn, 1) := by decide +kernel
theorem dX12_placeApart_56 : decode cX12_placeApart 56 = .ok (.aload_n 0, 1) := by decide +kernel
theorem dX12_placeApart_57 : decode cX12_placeApart 57 = .ok (.invokevirtual 233, 3) := by decide +kernel
theorem dX12_placeApart_60 : decode cX12_placeApart 60 = .ok (.aload_n 0, 1) := by decide +kernel
theorem dX12_placeApart_61 : decode cX12_placeApart 61 = .ok (.aload_n 0, 1) := by decide +kernel
theorem dX12_placeApart_62 : decode cX12_placeApart 62 = .ok (.iload_n 1, 1) := by decide +kernel
theorem dX12_placeApart_63 : decode cX12_placeApart 63 = .ok (.iload_n 2, 1) := by decide +kernel
theorem dX12_placeApart_64 : decode cX12_placeApart 64 = .ok (.invokevirtual 421, 3) := by decide +kernel
theorem dX12_placeApart_67 : decode cX12_placeApart 67 = .ok (.invokevirtual 408, 3) := by decide +kernel
theorem dX12_placeApart_70 : decode cX12_placeApart 70 = .ok (.ireturn, 1) := by decide +kernel
set_option maxRecDepth 20000 in
theorem ggX12_setCredit_X12_isIn : GoodIn wsX12_setCredit wsX12_isIn := goodIn_s _ [(5, 1)] rfl (by decide +kernel)
set_option maxRecDepth 20000 in
theorem gX12_setCredit_X12_isIn : GoodIn wsX12_setCredit (va_wsS RX12 108 yX12_isIn wsX12_isIn) := goodIn_app (goodIn_of _ (by decide +kernel)) ggX12_setCredit_X12_isIn
set_option maxRecDepth 20000 in
theorem ggX12_setCredit_X12_goes : GoodIn wsX12_setCredit wsX12_goes := goodIn_s _ [(9, 4), (4, 1), (13, 1), (34, 48)] rfl (by decide +kernel)
set_option maxRecDepth 20000 in
theorem gX12_setCredit_X12_goes : GoodIn wsX12_setCredit (wsV RX12 100 RX12 yX12_goes wsX12_goes) := goodIn_app (goodIn_of _ (by decide +kernel)) ggX12_setCredit_X12_goes
set_option maxRecDepth 20000 in
theorem ggX12_setCredit_X12_laysAside : GoodIn wsX12_setCredit wsX12_laysAside := goodIn_s _ [(17, 3), (34, 48)] rfl (by decide +kernel)
set_option maxRecDepth 20000 in
theorem gX12_setCredit_X12_laysAside : GoodIn wsX12_setCredit (wsV RX12 233 RX12 yX12_laysAside wsX12_laysAside) := goodIn_app (goodIn_of _ (by decide +kernel)) ggX12_setCredit_X12_laysAside
set_option maxRecDepth 20000 in
theorem ggX12_setCredit_X12_setsCredit : GoodIn wsX12_setCredit wsX12_setsCredit := goodIn_s _ [(23, 1), (19, 1), (34, 48)] rfl (by decide +kernel)
set_option maxRecDepth 20000 in
theorem gX12_setCredit_X12_setsCredit : GoodIn wsX12_setCredit (wsV RX12 424 RX12 yX12_setsCredit wsX12_setsCredit) := goodIn_app (goodIn_of _ (by decide +kernel)) ggX12_setCredit_X12_setsCredit
set_option maxRecDepth 20000 in
theorem ggX12_setCredit_X12_kept : GoodIn wsX12_setCredit wsX12_kept := goodIn_s _ [(27, 4), (4, 1), (31, 3), (18, 1), (34, 48)] rfl (by decide +kernel)
set_option maxRecDepth 20000 in
theorem gX12_setCredit_X12_kept : GoodIn wsX12_setCredit (wsV RX12 408 RX12 yX12_kept wsX12_kept) := goodIn_app (goodIn_of _ (by decide +kernel)) ggX12_setCredit_X12_kept
theorem dX12_setCredit_0 : decode cX12_setCredit 0 = .ok (.aload_n 0, 1) := by decide +kernel
theorem dX12_setCredit_1 : decode cX12_setCredit 1 = .ok (.iload_n 1, 1) := by decide +kernel
theorem dX12_setCredit_2 : decode cX12_setCredit 2 = .ok (.i2l, 1) := by decide +kernel
theorem dX12_setCredit_3 : decode cX12_setCredit 3 = .ok (.lconst 0, 1) := by decide +kernel
theorem dX12_setCredit_4 : decode cX12_setCredit 4 = .ok (.ldc2_w 413, 3) := by decide +kernel
theorem dX12_setCredit_7 : decode cX12_setCredit 7 = .ok (.invokestatic 108, 3) := by decide +kernel
theorem dX12_setCredit_10 : decode cX12_setCredit 10 = .ok (.invokevirtual 100, 3) := by decide +kernel
theorem dX12_setCredit_13 : decode cX12_setCredit 13 = .ok (.ifCond .ne 5, 3) := by decide +kernel
theorem dX12_setCredit_16 : decode cX12_setCredit 16 = .ok (.iconst 0, 1) := by decide +kernel
theorem dX12_setCredit_17 : decode cX12_setCredit 17 = .ok (.ireturn, 1) := by decide +kernel
theorem dX12_setCredit_18 : decode cX12_setCredit 18 = .ok (.aload_n 0, 1) := by decide +kernel
theorem dX12_setCredit_19 : decode cX12_setCredit 19 = .ok (.invokevirtual 233, 3) := by decide +kernel
theorem dX12_setCredit_22 : decode cX12_setCredit 22 = .ok (.aload_n 0, 1) := by decide +kernel
theorem dX12_setCredit_23 : decode cX12_setCredit 23 = .ok (.aload_n 0, 1) := by decide +kernel
theorem dX12_setCredit_24 : decode cX12_setCredit 24 = .ok (.iload_n 1, 1) := by decide +kernel
theorem dX12_setCredit_25 : decode cX12_setCredit 25 = .ok (.invokevirtual 424, 3) := by decide +kernel
theorem dX12_setCredit_28 : decode cX12_setCredit 28 = .ok (.invokevirtual 408, 3) := by decide +kernel
theorem dX12_setCredit_31 : decode cX12_setCredit 31 = .ok (.ireturn, 1) := by decide +kernel
set_option maxRecDepth 20000 in
theorem ggX12_commandHere_X12_isWord : GoodIn wsX12_commandHere wsX12_isWord := goodIn_s _ [(14, 6), (13, 1), (20, 50)] rfl (by decide +kernel)
set_option maxRecDepth 20000 in
theorem gX12_commandHere_X12_isWord : GoodIn wsX12_commandHere (wsV RX12 205 RX12 yX12_isWord wsX12_isWord) := goodIn_app (goodIn_of _ (by decide +kernel)) ggX12_commandHere_X12_isWord
theorem dX12_commandHere_0 : decode cX12_commandHere 0 = .ok (.aload_n 0, 1) := by decide +kernel
theorem dX12_commandHere_1 : decode cX12_commandHere 1 = .ok (.ldc2_w 427, 3) := by decide +kernel
theorem dX12_commandHere_4 : decode cX12_commandHere 4 = .ok (.invokevirtual 205, 3) := by decide +kernel
theorem dX12_commandHere_7 : decode cX12_commandHere 7 = .ok (.ifCond .eq 5, 3) := by decide +kernel
theorem dX12_commandHere_10 : decode cX12_commandHere 10 = .ok (.iconst 0, 1) := by decide +kernel
theorem dX12_commandHere_11 : decode cX12_commandHere 11 = .ok (.ireturn, 1) := by decide +kernel
theorem dX12_commandHere_12 : decode cX12_commandHere 12 = .ok (.aload_n 0, 1) := by decide +kernel
theorem dX12_commandHere_13 : decode cX12_commandHere 13 = .ok (.ldc2_w 429, 3) := by decide +kernel
theorem dX12_commandHere_16 : decode cX12_commandHere 16 = .ok (.invokevirtual 205, 3) := by decide +kernel
theorem dX12_commandHere_19 : decode cX12_commandHere 19 = .ok (.ifCond .eq 5, 3) := by decide +kernel
theorem dX12_commandHere_22 : decode cX12_commandHere 22 = .ok (.iconst 1, 1) := by decide +kernel
theorem dX12_commandHere_23 : decode cX12_commandHere 23 = .ok (.ireturn, 1) := by decide +kernel
theorem dX12_commandHere_24 : decode cX12_commandHere 24 = .ok (.aload_n 0, 1) := by decide +kernel
theorem dX12_commandHere_25 : decode cX12_commandHere 25 = .ok (.ldc2_w 431, 3) := by decide +kernel
theorem dX12_commandHere_28 : decode cX12_commandHere 28 = .ok (.invokevirtual 205, 3) := by decide +kernel
theorem dX12_commandHere_31 : decode cX12_commandHere 31 = .ok (.ifCond .eq 5, 3) := by decide +kernel
theorem dX12_commandHere_34 : decode cX12_commandHere 34 = .ok (.iconst 2, 1) := by decide +kernel
theorem dX12_commandHere_35 : decode cX12_commandHere 35 = .ok (.ireturn, 1) := by decide +kernel
theorem dX12_commandHere_36 : decode cX12_commandHere 36 = .ok (.aload_n 0, 1) := by decide +kernel
theorem dX12_commandHere_37 : decode cX12_commandHere 37 = .ok (.ldc2_w 433, 3) := by decide +kernel
theorem dX12_commandHere_40 : decode cX12_commandHere 40 = .ok (.invokevirtual 205, 3) := by decide +kernel
theorem dX12_commandHere_43 : decode cX12_commandHere 43 = .ok (.ifCond .eq 5, 3) := by decide +kernel
theorem dX12_commandHere_46 : decode cX12_commandHere 46 = .ok (.iconst 3, 1) := by decide +kernel
theorem dX12_commandHere_47 : decode cX12_commandHere 47 = .ok (.ireturn, 1) := by decide +kernel
theorem dX12_commandHere_48 : decode cX12_commandHere 48 = .ok (.aload_n 0, 1) := by decide +kernel
theorem dX12_commandHere_49 : decode cX12_commandHere 49 = .ok (.ldc2_w 435, 3) := by decide +kernel
theorem dX12_commandHere_52 : decode cX12_commandHere 52 = .ok (.invokevirtual 205, 3) := by decide +kernel
theorem dX12_commandHere_55 : decode cX12_commandHere 55 = .ok (.ifCond .eq 5, 3) := by decide +kernel
theorem dX12_commandHere_58 : decode cX12_commandHere 58 = .ok (.iconst 4, 1) := by decide +kernel
theorem dX12_commandHere_59 : decode cX12_commandHere 59 = .ok (.ireturn, 1) := by decide +kernel
theorem dX12_commandHere_60 : decode cX12_commandHere 60 = .ok (.aload_n 0, 1) := by decide +kernel
theorem dX12_commandHere_61 : decode cX12_commandHere 61 = .ok (.ldc2_w 437, 3) := by decide +kernel
theorem dX12_commandHere_64 : decode cX12_commandHere 64 = .ok (.invokevirtual 205, 3) := by decide +kernel
theorem dX12_commandHere_67 : decode cX12_commandHere 67 = .ok (.ifCond .eq 5, 3) := by decide +kernel
theorem dX12_commandHere_70 : decode cX12_commandHere 70 = .ok (.iconst 5, 1) := by decide +kernel
theorem dX12_commandHere_71 : decode cX12_commandHere 71 = .ok (.ireturn, 1) := by decide +kernel
theorem dX12_commandHere_72 : decode cX12_commandHere 72 = .ok (.aload_n 0, 1) := by decide +kernel
theorem dX12_commandHere_73 : decode cX12_commandHere 73 = .ok (.ldc2_w 439, 3) := by decide +kernel
theorem dX12_commandHere_76 : decode cX12_commandHere 76 = .ok (.invokevirtual 205, 3) := by decide +kernel
theorem dX12_commandHere_79 : decode cX12_commandHere 79 = .ok (.ifCond .eq 6, 3) := by decide +kernel
theorem dX12_commandHere_82 : decode cX12_commandHere 82 = .ok (.bipush 6, 2) := by decide +kernel
theorem dX12_commandHere_84 : decode cX12_commandHere 84 = .ok (.ireturn, 1) := by decide +kernel
theorem dX12_commandHere_85 : decode cX12_commandHere 85 = .ok (.aload_n 0, 1) := by decide +kernel
theorem dX12_commandHere_86 : decode cX12_commandHere 86 = .ok (.ldc2_w 225, 3) := by decide +kernel
theorem dX12_commandHere_89 : decode cX12_commandHere 89 = .ok (.invokevirtual 205, 3) := by decide +kernel
theorem dX12_commandHere_92 : decode cX12_commandHere 92 = .ok (.ifCond .eq 6, 3) := by decide +kernel
theorem dX12_commandHere_95 : decode cX12_commandHere 95 = .ok (.bipush 7, 2) := by decide +kernel
theorem dX12_commandHere_97 : decode cX12_commandHere 97 = .ok (.ireturn, 1) := by decide +kernel
theorem dX12_commandHere_98 : decode cX12_commandHere 98 = .ok (.aload_n 0, 1) := by decide +kernel
theorem dX12_commandHere_99 : decode cX12_commandHere 99 = .ok (.ldc2_w 441, 3) := by decide +kernel
theorem dX12_commandHere_102 : decode cX12_commandHere 102 = .ok (.invokevirtual 205, 3) := by decide +kernel
theorem dX12_commandHere_105 : decode cX12_commandHere 105 = .ok (.ifCond .eq 8, 3) := by decide +kernel
theorem dX12_commandHere_108 : decode cX12_commandHere 108 = .ok (.bipush 8, 2) := by decide +kernel
theorem dX12_commandHere_110 : decode cX12_commandHere 110 = .ok (.goto 4, 3) := by decide +kernel
theorem dX12_commandHere_113 : decode cX12_commandHere 113 = .ok (.iconst (-1), 1) := by decide +kernel
theorem dX12_commandHere_114 : decode cX12_commandHere 114 = .ok (.ireturn, 1) := by decide +kernel
set_option maxRecDepth 20000 in
theorem ggX12_command_X12_commandHere : GoodIn wsX12_command wsX12_commandHere := goodIn_s _ [(11, 13), (10, 1), (24, 8), (89, 48)] rfl (by decide +kernel)
set_option maxRecDepth 20000 in
theorem gX12_command_X12_commandHere : GoodIn wsX12_command (wsV RX12 443 RX12 yX12_commandHere wsX12_commandHere) := goodIn_app (goodIn_of _ (by decide +kernel)) ggX12_command_X12_commandHere
set_option maxRecDepth 20000 in
theorem ggX12_command_X12_wrong : GoodIn wsX12_command wsX12_wrong := goodIn_s _ [(35, 1), (31, 1), (25, 1), (36, 2), (1, 1), (38, 1), (89, 48)] rfl (by decide +kernel)
set_option maxRecDepth 20000 in
theorem gX12_command_X12_wrong : GoodIn wsX12_command (wsV RX12 155 RX12 yX12_wrong wsX12_wrong) := goodIn_app (goodIn_of _ (by decide +kernel)) ggX12_command_X12_wrong
set_option maxRecDepth 20000 in
theorem ggX12_command_X12_isGood : GoodIn wsX12_command wsX12_isGood := goodIn_s _ [(30, 2), (89, 48)] rfl (by decide +kernel)
set_option maxRecDepth 20000 in
theorem gX12_command_X12_isGood : GoodIn wsX12_command (wsV RX12 148 RX12 yX12_isGood wsX12_isGood) := goodIn_app (goodIn_of _ (by decide +kernel)) ggX12_command_X12_isGood
set_option maxRecDepth 20000 in
theorem ggX12_command_X12_goOn : GoodIn wsX12_command wsX12_goOn := goodIn_s _ [(42, 2), (36, 1), (26, 1), (44, 1), (25, 1), (45, 3), (10, 1), (48, 9), (89, 48)] rfl (by decide +kernel)
set_option maxRecDepth 20000 in
theorem gX12_command_X12_goOn : GoodIn wsX12_command (wsV RX12 158 RX12 yX12_goOn wsX12_goOn) := goodIn_app (goodIn_of _ (by decide +kernel)) ggX12_command_X12_goOn
set_option maxRecDepth 20000 in
theorem ggX12_command_X12_number : GoodIn wsX12_command wsX12_number := goodIn_s _ [(60, 1), (25, 1), (44, 1), (27, 3), (10, 1), (30, 8), (1, 1), (38, 1), (61, 3), (39, 5), (26, 1), (45, 12), (89, 48)] rfl (by decide +kernel)
